theorem dX4_init_0 : decode cX4_init 0 = .ok (.aload_n 0, 1) := by decide +kernel
theorem dX4_init_1 : decode cX4_init 1 = .ok (.invokespecial 1, 3) := by decide +kernel
theorem dX4_init_4 : decode cX4_init 4 = .ok (.aload_n 0, 1) := by decide +kernel
theorem dX4_init_5 : decode cX4_init 5 = .ok (.bipush 64, 2) := by decide +kernel
theorem dX4_init_7 : decode cX4_init 7 = .ok (.newarray .int, 2) := by decide +kernel
theorem dX4_init_9 : decode cX4_init 9 = .ok (.dup, 1) := by decide +kernel
theorem dX4_init_10 : decode cX4_init 10 = .ok (.iconst 0, 1) := by decide +kernel
theorem dX4_init_11 : decode cX4_init 11 = .ok (.ldc 7, 2) := by decide +kernel
theorem dX4_init_13 : decode cX4_init 13 = .ok (.iastore, 1) := by decide +kernel
theorem dX4_init_14 : decode cX4_init 14 = .ok (.dup, 1) := by decide +kernel
theorem dX4_init_15 : decode cX4_init 15 = .ok (.iconst 1, 1) := by decide +kernel
theorem dX4_init_16 : decode cX4_init 16 = .ok (.ldc 8, 2) := by decide +kernel
theorem dX4_init_18 : decode cX4_init 18 = .ok (.iastore, 1) := by decide +kernel
theorem dX4_init_19 : decode cX4_init 19 = .ok (.dup, 1) := by decide +kernel
theorem dX4_init_20 : decode cX4_init 20 = .ok (.iconst 2, 1) := by decide +kernel
theorem dX4_init_21 : decode cX4_init 21 = .ok (.ldc 9, 2) := by decide +kernel
theorem dX4_init_23 : decode cX4_init 23 = .ok (.iastore, 1) := by decide +kernel
theorem dX4_init_24 : decode cX4_init 24 = .ok (.dup, 1) := by decide +kernel
theorem dX4_init_25 : decode cX4_init 25 = .ok (.iconst 3, 1) := by decide +kernel
theorem dX4_init_26 : decode cX4_init 26 = .ok (.ldc 10, 2) := by decide +kernel
theorem dX4_init_28 : decode cX4_init 28 = .ok (.iastore, 1) := by decide +kernel
theorem dX4_init_29 : decode cX4_init 29 = .ok (.dup, 1) := by decide +kernel
theorem dX4_init_30 : decode cX4_init 30 = .ok (.iconst 4, 1) := by decide +kernel
theorem dX4_init_31 : decode cX4_init 31 = .ok (.ldc 11, 2) := by decide +kernel
theorem dX4_init_33 : decode cX4_init 33 = .ok (.iastore, 1) := by decide +kernel
theorem dX4_init_34 : decode cX4_init 34 = .ok (.dup, 1) := by decide +kernel
theorem dX4_init_35 : decode cX4_init 35 = .ok (.iconst 5, 1) := by decide +kernel
theorem dX4_init_36 : decode cX4_init 36 = .ok (.ldc 12, 2) := by decide +kernel
theorem dX4_init_38 : decode cX4_init 38 = .ok (.iastore, 1) := by decide +kernel
theorem dX4_init_39 : decode cX4_init 39 = .ok (.dup, 1) := by decide +kernel
theorem dX4_init_40 : decode cX4_init 40 = .ok (.bipush 6, 2) := by decide +kernel
theorem dX4_init_42 : decode cX4_init 42 = .ok (.ldc 13, 2) := by decide +kernel
theorem dX4_init_44 : decode cX4_init 44 = .ok (.iastore, 1) := by decide +kernel
theorem dX4_init_45 : decode cX4_init 45 = .ok (.dup, 1) := by decide +kernel
theorem dX4_init_46 : decode cX4_init 46 = .ok (.bipush 7, 2) := by decide +kernel
theorem dX4_init_48 : decode cX4_init 48 = .ok (.ldc 14, 2) := by decide +kernel
theorem dX4_init_50 : decode cX4_init 50 = .ok (.iastore, 1) := by decide +kernel
theorem dX4_init_51 : decode cX4_init 51 = .ok (.dup, 1) := by decide +kernel
theorem dX4_init_52 : decode cX4_init 52 = .ok (.bipush 8, 2) := by decide +kernel
theorem dX4_init_54 : decode cX4_init 54 = .ok (.ldc 15, 2) := by decide +kernel
theorem dX4_init_56 : decode cX4_init 56 = .ok (.iastore, 1) := by decide +kernel
theorem dX4_init_57 : decode cX4_init 57 = .ok (.dup, 1) := by decide +kernel
theorem dX4_init_58 : decode cX4_init 58 = .ok (.bipush 9, 2) := by decide +kernel
theorem dX4_init_60 : decode cX4_init 60 = .ok (.ldc 16, 2) := by decide +kernel
theorem dX4_init_62 : decode cX4_init 62 = .ok (.iastore, 1) := by decide +kernel
theorem dX4_init_63 : decode cX4_init 63 = .ok (.dup, 1) := by decide +kernel
theorem dX4_init_64 : decode cX4_init 64 = .ok (.bipush 10, 2) := by decide +kernel
theorem dX4_init_66 : decode cX4_init 66 = .ok (.ldc 17, 2) := by decide +kernel
theorem dX4_init_68 : decode cX4_init 68 = .ok (.iastore, 1) := by decide +kernel
theorem dX4_init_69 : decode cX4_init 69 = .ok (.dup, 1) := by decide +kernel
theorem dX4_init_70 : decode cX4_init 70 = .ok (.bipush 11, 2) := by decide +kernel
theorem dX4_init_72 : decode cX4_init 72 = .ok (.ldc 18, 2) := by decide +kernel
theorem dX4_init_74 : decode cX4_init 74 = .ok (.iastore, 1) := by decide +kernel
theorem dX4_init_75 : decode cX4_init 75 = .ok (.dup, 1) := by decide +kernel
theorem dX4_init_76 : decode cX4_init 76 = .ok (.bipush 12, 2) := by decide +kernel
theorem dX4_init_78 : decode cX4_init 78 = .ok (.ldc 19, 2) := by decide +kernel
theorem dX4_init_80 : decode cX4_init 80 = .ok (.iastore, 1) := by decide +kernel
theorem dX4_init_81 : decode cX4_init 81 = .ok (.dup, 1) := by decide +kernel
theorem dX4_init_82 : decode cX4_init 82 = .ok (.bipush 13, 2) := by decide +kernel
theorem dX4_init_84 : decode cX4_init 84 = .ok (.ldc 20, 2) := by decide +kernel
theorem dX4_init_86 : decode cX4_init 86 = .ok (.iastore, 1) := by decide +kernel
theorem dX4_init_87 : decode cX4_init 87 = .ok (.dup, 1) := by decide +kernel
theorem dX4_init_88 : decode cX4_init 88 = .ok (.bipush 14, 2) := by decide +kernel
theorem dX4_init_90 : decode cX4_init 90 = .ok (.ldc 21, 2) := by decide +kernel
theorem dX4_init_92 : decode cX4_init 92 = .ok (.iastore, 1) := by decide +kernel
theorem dX4_init_93 : decode cX4_init 93 = .ok (.dup, 1) := by decide +kernel
theorem dX4_init_94 : decode cX4_init 94 = .ok (.bipush 15, 2) := by decide +kernel
theorem dX4_init_96 : decode cX4_init 96 = .ok (.ldc 22, 2) := by decide +kernel
theorem dX4_init_98 : decode cX4_init 98 = .ok (.iastore, 1) := by decide +kernel
theorem dX4_init_99 : decode cX4_init 99 = .ok (.dup, 1) := by decide +kernel
theorem dX4_init_100 : decode cX4_init 100 = .ok (.bipush 16, 2) := by decide +kernel
theorem dX4_init_102 : decode cX4_init 102 = .ok (.ldc 23, 2) := by decide +kernel
theorem dX4_init_104 : decode cX4_init 104 = .ok (.iastore, 1) := by decide +kernel
theorem dX4_init_105 : decode cX4_init 105 = .ok (.dup, 1) := by decide +kernel
theorem dX4_init_106 : decode cX4_init 106 = .ok (.bipush 17, 2) := by decide +kernel
theorem dX4_init_108 : decode cX4_init 108 = .ok (.ldc 24, 2) := by decide +kernel
theorem dX4_init_110 : decode cX4_init 110 = .ok (.iastore, 1) := by decide +kernel
theorem dX4_init_111 : decode cX4_init 111 = .ok (.dup, 1) := by decide +kernel
theorem dX4_init_112 : decode cX4_init 112 = .ok (.bipush 18, 2) := by decide +kernel
theorem dX4_init_114 : decode cX4_init 114 = .ok (.ldc 25, 2) := by decide +kernel
theorem dX4_init_116 : decode cX4_init 116 = .ok (.iastore, 1) := by decide +kernel
theorem dX4_init_117 : decode cX4_init 117 = .ok (.dup, 1) := by decide +kernel
theorem dX4_init_118 : decode cX4_init 118 = .ok (.bipush 19, 2) := by decide +kernel
theorem dX4_init_120 : decode cX4_init 120 = .ok (.ldc 26, 2) := by decide +kernel
theorem dX4_init_122 : decode cX4_init 122 = .ok (.iastore, 1) := by decide +kernel
theorem dX4_init_123 : decode cX4_init 123 = .ok (.dup, 1) := by decide +kernel
theorem dX4_init_124 : decode cX4_init 124 = .ok (.bipush 20, 2) := by decide +kernel
theorem dX4_init_126 : decode cX4_init 126 = .ok (.ldc 27, 2) := by decide +kernel
theorem dX4_init_128 : decode cX4_init 128 = .ok (.iastore, 1) := by decide +kernel
theorem dX4_init_129 : decode cX4_init 129 = .ok (.dup, 1) := by decide +kernel
theorem dX4_init_130 : decode cX4_init 130 = .ok (.bipush 21, 2) := by decide +kernel
theorem dX4_init_132 : decode cX4_init 132 = .ok (.ldc 28, 2) := by decide +kernel
theorem dX4_init_134 : decode cX4_init 134 = .ok (.iastore, 1) := by decide +kernel
theorem dX4_init_135 : decode cX4_init 135 = .ok (.dup, 1) := by decide +kernel
theorem dX4_init_136 : decode cX4_init 136 = .ok (.bipush 22, 2) := by decide +kernel
theorem dX4_init_138 : decode cX4_init 138 = .ok (.ldc 29, 2) := by decide +kernel
theorem dX4_init_140 : decode cX4_init 140 = .ok (.iastore, 1) := by decide +kernel
theorem dX4_init_141 : decode cX4_init 141 = .ok (.dup, 1) := by decide +kernel
theorem dX4_init_142 : decode cX4_init 142 = .ok (.bipush 23, 2) := by decide +kernel
theorem dX4_init_144 : decode cX4_init 144 = .ok (.ldc 30, 2) := by decide +kernel
theorem dX4_init_146 : decode cX4_init 146 = .ok (.iastore, 1) := by decide +kernel
theorem dX4_init_147 : decode cX4_init 147 = .ok (.dup, 1) := by decide +kernel
theorem dX4_init_148 : decode cX4_init 148 = .ok (.bipush 24, 2) := by decide +kernel
theorem dX4_init_150 : decode cX4_init 150 = .ok (.ldc 31, 2) := by decide +kernel
theorem dX4_init_152 : decode cX4_init 152 = .ok (.iastore, 1) := by decide +kernel
theorem dX4_init_153 : decode cX4_init 153 = .ok (.dup, 1) := by decide +kernel
theorem dX4_init_154 : decode cX4_init 154 = .ok (.bipush 25, 2) := by decide +kernel
theorem dX4_init_156 : decode cX4_init 156 = .ok (.ldc 32, 2) := by decide +kernel
theorem dX4_init_158 : decode cX4_init 158 = .ok (.iastore, 1) := by decide +kernel
theorem dX4_init_159 : decode cX4_init 159 = .ok (.dup, 1) := by decide +kernel
theorem dX4_init_160 : decode cX4_init 160 = .ok (.bipush 26, 2) := by decide +kernel
theorem dX4_init_162 : decode cX4_init 162 = .ok (.ldc 33, 2) := by decide +kernel
theorem dX4_init_164 : decode cX4_init 164 = .ok (.iastore, 1) := by decide +kernel
theorem dX4_init_165 : decode cX4_init 165 = .ok (.dup, 1) := by decide +kernel
theorem dX4_init_166 : decode cX4_init 166 = .ok (.bipush 27, 2) := by decide +kernel
theorem dX4_init_168 : decode cX4_init 168 = .ok (.ldc 34, 2) := by decide +kernel
theorem dX4_init_170 : decode cX4_init 170 = .ok (.iastore, 1) := by decide +kernel
theorem dX4_init_171 : decode cX4_init 171 = .ok (.dup, 1) := by decide +kernel
theorem dX4_init_172 : decode cX4_init 172 = .ok (.bipush 28, 2) := by decide +kernel
theorem dX4_init_174 : decode cX4_init 174 = .ok (.ldc 35, 2) := by decide +kernel
theorem dX4_init_176 : decode cX4_init 176 = .ok (.iastore, 1) := by decide +kernel
theorem dX4_init_177 : decode cX4_init 177 = .ok (.dup, 1) := by decide +kernel
theorem dX4_init_178 : decode cX4_init 178 = .ok (.bipush 29, 2) := by decide +kernel
theorem dX4_init_180 : decode cX4_init 180 = .ok (.ldc 36, 2) := by decide +kernel
theorem dX4_init_182 : decode cX4_init 182 = .ok (.iastore, 1) := by decide +kernel
theorem dX4_init_183 : decode cX4_init 183 = .ok (.dup, 1) := by decide +kernel
theorem dX4_init_184 : decode cX4_init 184 = .ok (.bipush 30, 2) := by decide +kernel
theorem dX4_init_186 : decode cX4_init 186 = .ok (.ldc 37, 2) := by decide +kernel
theorem dX4_init_188 : decode cX4_init 188 = .ok (.iastore, 1) := by decide +kernel
theorem dX4_init_189 : decode cX4_init 189 = .ok (.dup, 1) := by decide +kernel
theorem dX4_init_190 : decode cX4_init 190 = .ok (.bipush 31, 2) := by decide +kernel
theorem dX4_init_192 : decode cX4_init 192 = .ok (.ldc 38, 2) := by decide +kernel
theorem dX4_init_194 : decode cX4_init 194 = .ok (.iastore, 1) := by decide +kernel
theorem dX4_init_195 : decode cX4_init 195 = .ok (.dup, 1) := by decide +kernel
theorem dX4_init_196 : decode cX4_init 196 = .ok (.bipush 32, 2) := by decide +kernel
theorem dX4_init_198 : decode cX4_init 198 = .ok (.ldc 39, 2) := by decide +kernel
theorem dX4_init_200 : decode cX4_init 200 = .ok (.iastore, 1) := by decide +kernel
theorem dX4_init_201 : decode cX4_init 201 = .ok (.dup, 1) := by decide +kernel
theorem dX4_init_202 : decode cX4_init 202 = .ok (.bipush 33, 2) := by decide +kernel
theorem dX4_init_204 : decode cX4_init 204 = .ok (.ldc 40, 2) := by decide +kernel
theorem dX4_init_206 : decode cX4_init 206 = .ok (.iastore, 1) := by decide +kernel
theorem dX4_init_207 : decode cX4_init 207 = .ok (.dup, 1) := by decide +kernel
theorem dX4_init_208 : decode cX4_init 208 = .ok (.bipush 34, 2) := by decide +kernel
theorem dX4_init_210 : decode cX4_init 210 = .ok (.ldc 41, 2) := by decide +kernel
theorem dX4_init_212 : decode cX4_init 212 = .ok (.iastore, 1) := by decide +kernel
theorem dX4_init_213 : decode cX4_init 213 = .ok (.dup, 1) := by decide +kernel
theorem dX4_init_214 : decode cX4_init 214 = .ok (.bipush 35, 2) := by decide +kernel
theorem dX4_init_216 : decode cX4_init 216 = .ok (.ldc 42, 2) := by decide +kernel
theorem dX4_init_218 : decode cX4_init 218 = .ok (.iastore, 1) := by decide +kernel
theorem dX4_init_219 : decode cX4_init 219 = .ok (.dup, 1) := by decide +kernel
theorem dX4_init_220 : decode cX4_init 220 = .ok (.bipush 36, 2) := by decide +kernel
theorem dX4_init_222 : decode cX4_init 222 = .ok (.ldc 43, 2) := by decide +kernel
theorem dX4_init_224 : decode cX4_init 224 = .ok (.iastore, 1) := by decide +kernel
theorem dX4_init_225 : decode cX4_init 225 = .ok (.dup, 1) := by decide +kernel
theorem dX4_init_226 : decode cX4_init 226 = .ok (.bipush 37, 2) := by decide +kernel
theorem dX4_init_228 : decode cX4_init 228 = .ok (.ldc 44, 2) := by decide +kernel
theorem dX4_init_230 : decode cX4_init 230 = .ok (.iastore, 1) := by decide +kernel
theorem dX4_init_231 : decode cX4_init 231 = .ok (.dup, 1) := by decide +kernel
theorem dX4_init_232 : decode cX4_init 232 = .ok (.bipush 38, 2) := by decide +kernel
theorem dX4_init_234 : decode cX4_init 234 = .ok (.ldc 45, 2) := by decide +kernel
theorem dX4_init_236 : decode cX4_init 236 = .ok (.iastore, 1) := by decide +kernel
theorem dX4_init_237 : decode cX4_init 237 = .ok (.dup, 1) := by decide +kernel
theorem dX4_init_238 : decode cX4_init 238 = .ok (.bipush 39, 2) := by decide +kernel
theorem dX4_init_240 : decode cX4_init 240 = .ok (.ldc 46, 2) := by decide +kernel
theorem dX4_init_242 : decode cX4_init 242 = .ok (.iastore, 1) := by decide +kernel
theorem dX4_init_243 : decode cX4_init 243 = .ok (.dup, 1) := by decide +kernel
theorem dX4_init_244 : decode cX4_init 244 = .ok (.bipush 40, 2) := by decide +kernel
theorem dX4_init_246 : decode cX4_init 246 = .ok (.ldc 47, 2) := by decide +kernel
theorem dX4_init_248 : decode cX4_init 248 = .ok (.iastore, 1) := by decide +kernel
theorem dX4_init_249 : decode cX4_init 249 = .ok (.dup, 1) := by decide +kernel
theorem dX4_init_250 : decode cX4_init 250 = .ok (.bipush 41, 2) := by decide +kernel
theorem dX4_init_252 : decode cX4_init 252 = .ok (.ldc 48, 2) := by decide +kernel
theorem dX4_init_254 : decode cX4_init 254 = .ok (.iastore, 1) := by decide +kernel
theorem dX4_init_255 : decode cX4_init 255 = .ok (.dup, 1) := by decide +kernel
theorem dX4_init_256 : decode cX4_init 256 = .ok (.bipush 42, 2) := by decide +kernel
theorem dX4_init_258 : decode cX4_init 258 = .ok (.ldc 49, 2) := by decide +kernel
theorem dX4_init_260 : decode cX4_init 260 = .ok (.iastore, 1) := by decide +kernel
theorem dX4_init_261 : decode cX4_init 261 = .ok (.dup, 1) := by decide +kernel
theorem dX4_init_262 : decode cX4_init 262 = .ok (.bipush 43, 2) := by decide +kernel
theorem dX4_init_264 : decode cX4_init 264 = .ok (.ldc 50, 2) := by decide +kernel
theorem dX4_init_266 : decode cX4_init 266 = .ok (.iastore, 1) := by decide +kernel
theorem dX4_init_267 : decode cX4_init 267 = .ok (.dup, 1) := by decide +kernel
theorem dX4_init_268 : decode cX4_init 268 = .ok (.bipush 44, 2) := by decide +kernel
theorem dX4_init_270 : decode cX4_init 270 = .ok (.ldc 51, 2) := by decide +kernel
theorem dX4_init_272 : decode cX4_init 272 = .ok (.iastore, 1) := by decide +kernel
theorem dX4_init_273 : decode cX4_init 273 = .ok (.dup, 1) := by decide +kernel
theorem dX4_init_274 : decode cX4_init 274 = .ok (.bipush 45, 2) := by decide +kernel
theorem dX4_init_276 : decode cX4_init 276 = .ok (.ldc 52, 2) := by decide +kernel
theorem dX4_init_278 : decode cX4_init 278 = .ok (.iastore, 1) := by decide +kernel
theorem dX4_init_279 : decode cX4_init 279 = .ok (.dup, 1) := by decide +kernel
theorem dX4_init_280 : decode cX4_init 280 = .ok (.bipush 46, 2) := by decide +kernel
theorem dX4_init_282 : decode cX4_init 282 = .ok (.ldc 53, 2) := by decide +kernel
theorem dX4_init_284 : decode cX4_init 284 = .ok (.iastore, 1) := by decide +kernel
theorem dX4_init_285 : decode cX4_init 285 = .ok (.dup, 1) := by decide +kernel
theorem dX4_init_286 : decode cX4_init 286 = .ok (.bipush 47, 2) := by decide +kernel
theorem dX4_init_288 : decode cX4_init 288 = .ok (.ldc 54, 2) := by decide +kernel
theorem dX4_init_290 : decode cX4_init 290 = .ok (.iastore, 1) := by decide +kernel
theorem dX4_init_291 : decode cX4_init 291 = .ok (.dup, 1) := by decide +kernel
theorem dX4_init_292 : decode cX4_init 292 = .ok (.bipush 48, 2) := by decide +kernel
theorem dX4_init_294 : decode cX4_init 294 = .ok (.ldc 55, 2) := by decide +kernel
theorem dX4_init_296 : decode cX4_init 296 = .ok (.iastore, 1) := by decide +kernel
theorem dX4_init_297 : decode cX4_init 297 = .ok (.dup, 1) := by decide +kernel
theorem dX4_init_298 : decode cX4_init 298 = .ok (.bipush 49, 2) := by decide +kernel
theorem dX4_init_300 : decode cX4_init 300 = .ok (.ldc 56, 2) := by decide +kernel
theorem dX4_init_302 : decode cX4_init 302 = .ok (.iastore, 1) := by decide +kernel
theorem dX4_init_303 : decode cX4_init 303 = .ok (.dup, 1) := by decide +kernel
theorem dX4_init_304 : decode cX4_init 304 = .ok (.bipush 50, 2) := by decide +kernel
theorem dX4_init_306 : decode cX4_init 306 = .ok (.ldc 57, 2) := by decide +kernel
theorem dX4_init_308 : decode cX4_init 308 = .ok (.iastore, 1) := by decide +kernel
theorem dX4_init_309 : decode cX4_init 309 = .ok (.dup, 1) := by decide +kernel
theorem dX4_init_310 : decode cX4_init 310 = .ok (.bipush 51, 2) := by decide +kernel
theorem dX4_init_312 : decode cX4_init 312 = .ok (.ldc 58, 2) := by decide +kernel
theorem dX4_init_314 : decode cX4_init 314 = .ok (.iastore, 1) := by decide +kernel
theorem dX4_init_315 : decode cX4_init 315 = .ok (.dup, 1) := by decide +kernel
theorem dX4_init_316 : decode cX4_init 316 = .ok (.bipush 52, 2) := by decide +kernel
theorem dX4_init_318 : decode cX4_init 318 = .ok (.ldc 59, 2) := by decide +kernel
theorem dX4_init_320 : decode cX4_init 320 = .ok (.iastore, 1) := by decide +kernel
theorem dX4_init_321 : decode cX4_init 321 = .ok (.dup, 1) := by decide +kernel
theorem dX4_init_322 : decode cX4_init 322 = .ok (.bipush 53, 2) := by decide +kernel
theorem dX4_init_324 : decode cX4_init 324 = .ok (.ldc 60, 2) := by decide +kernel
theorem dX4_init_326 : decode cX4_init 326 = .ok (.iastore, 1) := by decide +kernel
theorem dX4_init_327 : decode cX4_init 327 = .ok (.dup, 1) := by decide +kernel
theorem dX4_init_328 : decode cX4_init 328 = .ok (.bipush 54, 2) := by decide +kernel
theorem dX4_init_330 : decode cX4_init 330 = .ok (.ldc 61, 2) := by decide +kernel
theorem dX4_init_332 : decode cX4_init 332 = .ok (.iastore, 1) := by decide +kernel
theorem dX4_init_333 : decode cX4_init 333 = .ok (.dup, 1) := by decide +kernel
theorem dX4_init_334 : decode cX4_init 334 = .ok (.bipush 55, 2) := by decide +kernel
theorem dX4_init_336 : decode cX4_init 336 = .ok (.ldc 62, 2) := by decide +kernel
theorem dX4_init_338 : decode cX4_init 338 = .ok (.iastore, 1) := by decide +kernel
theorem dX4_init_339 : decode cX4_init 339 = .ok (.dup, 1) := by decide +kernel
theorem dX4_init_340 : decode cX4_init 340 = .ok (.bipush 56, 2) := by decide +kernel
theorem dX4_init_342 : decode cX4_init 342 = .ok (.ldc 63, 2) := by decide +kernel
theorem dX4_init_344 : decode cX4_init 344 = .ok (.iastore, 1) := by decide +kernel
theorem dX4_init_345 : decode cX4_init 345 = .ok (.dup, 1) := by decide +kernel
theorem dX4_init_346 : decode cX4_init 346 = .ok (.bipush 57, 2) := by decide +kernel
theorem dX4_init_348 : decode cX4_init 348 = .ok (.ldc 64, 2) := by decide +kernel
theorem dX4_init_350 : decode cX4_init 350 = .ok (.iastore, 1) := by decide +kernel
theorem dX4_init_351 : decode cX4_init 351 = .ok (.dup, 1) := by decide +kernel
theorem dX4_init_352 : decode cX4_init 352 = .ok (.bipush 58, 2) := by decide +kernel
theorem dX4_init_354 : decode cX4_init 354 = .ok (.ldc 65, 2) := by decide +kernel
theorem dX4_init_356 : decode cX4_init 356 = .ok (.iastore, 1) := by decide +kernel
theorem dX4_init_357 : decode cX4_init 357 = .ok (.dup, 1) := by decide +kernel
theorem dX4_init_358 : decode cX4_init 358 = .ok (.bipush 59, 2) := by decide +kernel
theorem dX4_init_360 : decode cX4_init 360 = .ok (.ldc 66, 2) := by decide +kernel
theorem dX4_init_362 : decode cX4_init 362 = .ok (.iastore, 1) := by decide +kernel
theorem dX4_init_363 : decode cX4_init 363 = .ok (.dup, 1) := by decide +kernel
theorem dX4_init_364 : decode cX4_init 364 = .ok (.bipush 60, 2) := by decide +kernel
theorem dX4_init_366 : decode cX4_init 366 = .ok (.ldc 67, 2) := by decide +kernel
theorem dX4_init_368 : decode cX4_init 368 = .ok (.iastore, 1) := by decide +kernel
theorem dX4_init_369 : decode cX4_init 369 = .ok (.dup, 1) := by decide +kernel
theorem dX4_init_370 : decode cX4_init 370 = .ok (.bipush 61, 2) := by decide +kernel
theorem dX4_init_372 : decode cX4_init 372 = .ok (.ldc 68, 2) := by decide +kernel
theorem dX4_init_374 : decode cX4_init 374 = .ok (.iastore, 1) := by decide +kernel
theorem dX4_init_375 : decode cX4_init 375 = .ok (.dup, 1) := by decide +kernel
theorem dX4_init_376 : decode cX4_init 376 = .ok (.bipush 62, 2) := by decide +kernel
theorem dX4_init_378 : decode cX4_init 378 = .ok (.ldc 69, 2) := by decide +kernel
theorem dX4_init_380 : decode cX4_init 380 = .ok (.iastore, 1) := by decide +kernel
theorem dX4_init_381 : decode cX4_init 381 = .ok (.dup, 1) := by decide +kernel
theorem dX4_init_382 : decode cX4_init 382 = .ok (.bipush 63, 2) := by decide +kernel
theorem dX4_init_384 : decode cX4_init 384 = .ok (.ldc 70, 2) := by decide +kernel
theorem dX4_init_386 : decode cX4_init 386 = .ok (.iastore, 1) := by decide +kernel
theorem dX4_init_387 : decode cX4_init 387 = .ok (.putfield 71, 3) := by decide +kernel
theorem dX4_init_390 : decode cX4_init 390 = .ok (.aload_n 0, 1) := by decide +kernel
theorem dX4_init_391 : decode cX4_init 391 = .ok (.bipush 8, 2) := by decide +kernel
theorem dX4_init_393 : decode cX4_init 393 = .ok (.newarray .int, 2) := by decide +kernel
theorem dX4_init_395 : decode cX4_init 395 = .ok (.dup, 1) := by decide +kernel
theorem dX4_init_396 : decode cX4_init 396 = .ok (.iconst 0, 1) := by decide +kernel
theorem dX4_init_397 : decode cX4_init 397 = .ok (.ldc 77, 2) := by decide +kernel
theorem dX4_init_399 : decode cX4_init 399 = .ok (.iastore, 1) := by decide +kernel
theorem dX4_init_400 : decode cX4_init 400 = .ok (.dup, 1) := by decide +kernel
theorem dX4_init_401 : decode cX4_init 401 = .ok (.iconst 1, 1) := by decide +kernel
theorem dX4_init_402 : decode cX4_init 402 = .ok (.ldc 78, 2) := by decide +kernel
theorem dX4_init_404 : decode cX4_init 404 = .ok (.iastore, 1) := by decide +kernel
theorem dX4_init_405 : decode cX4_init 405 = .ok (.dup, 1) := by decide +kernel
theorem dX4_init_406 : decode cX4_init 406 = .ok (.iconst 2, 1) := by decide +kernel
theorem dX4_init_407 : decode cX4_init 407 = .ok (.ldc 79, 2) := by decide +kernel
theorem dX4_init_409 : decode cX4_init 409 = .ok (.iastore, 1) := by decide +kernel
theorem dX4_init_410 : decode cX4_init 410 = .ok (.dup, 1) := by decide +kernel
theorem dX4_init_411 : decode cX4_init 411 = .ok (.iconst 3, 1) := by decide +kernel
theorem dX4_init_412 : decode cX4_init 412 = .ok (.ldc 80, 2) := by decide +kernel
theorem dX4_init_414 : decode cX4_init 414 = .ok (.iastore, 1) := by decide +kernel
theorem dX4_init_415 : decode cX4_init 415 = .ok (.dup, 1) := by decide +kernel
theorem dX4_init_416 : decode cX4_init 416 = .ok (.iconst 4, 1) := by decide +kernel
theorem dX4_init_417 : decode cX4_init 417 = .ok (.ldc 81, 2) := by decide +kernel
theorem dX4_init_419 : decode cX4_init 419 = .ok (.iastore, 1) := by decide +kernel
theorem dX4_init_420 : decode cX4_init 420 = .ok (.dup, 1) := by decide +kernel
theorem dX4_init_421 : decode cX4_init 421 = .ok (.iconst 5, 1) := by decide +kernel
theorem dX4_init_422 : decode cX4_init 422 = .ok (.ldc 82, 2) := by decide +kernel
theorem dX4_init_424 : decode cX4_init 424 = .ok (.iastore, 1) := by decide +kernel
theorem dX4_init_425 : decode cX4_init 425 = .ok (.dup, 1) := by decide +kernel
theorem dX4_init_426 : decode cX4_init 426 = .ok (.bipush 6, 2) := by decide +kernel
theorem dX4_init_428 : decode cX4_init 428 = .ok (.ldc 83, 2) := by decide +kernel
theorem dX4_init_430 : decode cX4_init 430 = .ok (.iastore, 1) := by decide +kernel
theorem dX4_init_431 : decode cX4_init 431 = .ok (.dup, 1) := by decide +kernel
theorem dX4_init_432 : decode cX4_init 432 = .ok (.bipush 7, 2) := by decide +kernel
theorem dX4_init_434 : decode cX4_init 434 = .ok (.ldc 84, 2) := by decide +kernel
theorem dX4_init_436 : decode cX4_init 436 = .ok (.iastore, 1) := by decide +kernel
theorem dX4_init_437 : decode cX4_init 437 = .ok (.putfield 85, 3) := by decide +kernel
theorem dX4_init_440 : decode cX4_init 440 = .ok (.aload_n 0, 1) := by decide +kernel
theorem dX4_init_441 : decode cX4_init 441 = .ok (.bipush 8, 2) := by decide +kernel
theorem dX4_init_443 : decode cX4_init 443 = .ok (.newarray .int, 2) := by decide +kernel
theorem dX4_init_445 : decode cX4_init 445 = .ok (.putfield 88, 3) := by decide +kernel
theorem dX4_init_448 : decode cX4_init 448 = .ok (.aload_n 0, 1) := by decide +kernel
theorem dX4_init_449 : decode cX4_init 449 = .ok (.bipush 64, 2) := by decide +kernel
theorem dX4_init_451 : decode cX4_init 451 = .ok (.newarray .int, 2) := by decide +kernel
theorem dX4_init_453 : decode cX4_init 453 = .ok (.putfield 91, 3) := by decide +kernel
theorem dX4_init_456 : decode cX4_init 456 = .ok (.aload_n 0, 1) := by decide +kernel
theorem dX4_init_457 : decode cX4_init 457 = .ok (.sipush 512, 3) := by decide +kernel
theorem dX4_init_460 : decode cX4_init 460 = .ok (.newarray .int, 2) := by decide +kernel
theorem dX4_init_462 : decode cX4_init 462 = .ok (.putfield 94, 3) := by decide +kernel
theorem dX4_init_465 : decode cX4_init 465 = .ok (.aload_n 0, 1) := by decide +kernel
theorem dX4_init_466 : decode cX4_init 466 = .ok (.bipush 32, 2) := by decide +kernel
theorem dX4_init_468 : decode cX4_init 468 = .ok (.newarray .int, 2) := by decide +kernel
theorem dX4_init_470 : decode cX4_init 470 = .ok (.putfield 97, 3) := by decide +kernel
theorem dX4_init_473 : decode cX4_init 473 = .ok (.aload_n 0, 1) := by decide +kernel
theorem dX4_init_474 : decode cX4_init 474 = .ok (.bipush 64, 2) := by decide +kernel
theorem dX4_init_476 : decode cX4_init 476 = .ok (.newarray .int, 2) := by decide +kernel
theorem dX4_init_478 : decode cX4_init 478 = .ok (.putfield 100, 3) := by decide +kernel
theorem dX4_init_481 : decode cX4_init 481 = .ok (.aload_n 0, 1) := by decide +kernel
theorem dX4_init_482 : decode cX4_init 482 = .ok (.sipush 300, 3) := by decide +kernel
theorem dX4_init_485 : decode cX4_init 485 = .ok (.newarray .int, 2) := by decide +kernel
theorem dX4_init_487 : decode cX4_init 487 = .ok (.putfield 103, 3) := by decide +kernel
theorem dX4_init_490 : decode cX4_init 490 = .ok (.aload_n 0, 1) := by decide +kernel
theorem dX4_init_491 : decode cX4_init 491 = .ok (.sipush 300, 3) := by decide +kernel
theorem dX4_init_494 : decode cX4_init 494 = .ok (.newarray .int, 2) := by decide +kernel
theorem dX4_init_496 : decode cX4_init 496 = .ok (.putfield 106, 3) := by decide +kernel
theorem dX4_init_499 : decode cX4_init 499 = .ok (.aload_n 0, 1) := by decide +kernel
theorem dX4_init_500 : decode cX4_init 500 = .ok (.bipush 32, 2) := by decide +kernel
theorem dX4_init_502 : decode cX4_init 502 = .ok (.newarray .int, 2) := by decide +kernel
theorem dX4_init_504 : decode cX4_init 504 = .ok (.putfield 109, 3) := by decide +kernel
theorem dX4_init_507 : decode cX4_init 507 = .ok (.aload_n 0, 1) := by decide +kernel
theorem dX4_init_508 : decode cX4_init 508 = .ok (.bipush 32, 2) := by decide +kernel
theorem dX4_init_510 : decode cX4_init 510 = .ok (.newarray .int, 2) := by decide +kernel
theorem dX4_init_512 : decode cX4_init 512 = .ok (.putfield 112, 3) := by decide +kernel
theorem dX4_init_515 : decode cX4_init 515 = .ok (.aload_n 0, 1) := by decide +kernel
theorem dX4_init_516 : decode cX4_init 516 = .ok (.bipush 32, 2) := by decide +kernel
theorem dX4_init_518 : decode cX4_init 518 = .ok (.newarray .int, 2) := by decide +kernel
theorem dX4_init_520 : decode cX4_init 520 = .ok (.putfield 115, 3) := by decide +kernel
theorem dX4_init_523 : decode cX4_init 523 = .ok (.aload_n 0, 1) := by decide +kernel
theorem dX4_init_524 : decode cX4_init 524 = .ok (.bipush 100, 2) := by decide +kernel
theorem dX4_init_526 : decode cX4_init 526 = .ok (.putfield 118, 3) := by decide +kernel
theorem dX4_init_529 : decode cX4_init 529 = .ok (.aload_n 0, 1) := by decide +kernel
theorem dX4_init_530 : decode cX4_init 530 = .ok (.sipush 400, 3) := by decide +kernel
theorem dX4_init_533 : decode cX4_init 533 = .ok (.newarray .int, 2) := by decide +kernel
theorem dX4_init_535 : decode cX4_init 535 = .ok (.putfield 122, 3) := by decide +kernel
theorem dX4_init_538 : decode cX4_init 538 = .ok (.return_, 1) := by decide +kernel
theorem dX4_round_0 : decode cX4_round 0 = .ok (.iload_n 0, 1) := by decide +kernel
theorem dX4_round_1 : decode cX4_round 1 = .ok (.iload_n 1, 1) := by decide +kernel
theorem dX4_round_2 : decode cX4_round 2 = .ok (.iushr, 1) := by decide +kernel
theorem dX4_round_3 : decode cX4_round 3 = .ok (.iload_n 0, 1) := by decide +kernel
theorem dX4_round_4 : decode cX4_round 4 = .ok (.bipush 32, 2) := by decide +kernel
theorem dX4_round_6 : decode cX4_round 6 = .ok (.iload_n 1, 1) := by decide +kernel
theorem dX4_round_7 : decode cX4_round 7 = .ok (.isub, 1) := by decide +kernel
theorem dX4_round_8 : decode cX4_round 8 = .ok (.ishl, 1) := by decide +kernel
theorem dX4_round_9 : decode cX4_round 9 = .ok (.ior, 1) := by decide +kernel
theorem dX4_round_10 : decode cX4_round 10 = .ok (.ireturn, 1) := by decide +kernel
set_option maxRecDepth 20000 in
theorem ggX4_hashBlock_X4_round : GoodIn wsX4_hashBlock wsX4_round := goodIn_r _ [8] (by decide +kernel) (by decide +kernel)
set_option maxRecDepth 20000 in
theorem gX4_hashBlock_X4_round : GoodIn wsX4_hashBlock (va_wsS RX4 128 yX4_round wsX4_round) := goodIn_app (goodIn_of _ (by decide +kernel)) ggX4_hashBlock_X4_round
theorem dX4_hashBlock_0 : decode cX4_hashBlock 0 = .ok (.iconst 0, 1) := by decide +kernel
theorem dX4_hashBlock_1 : decode cX4_hashBlock 1 = .ok (.istore_n 2, 1) := by decide +kernel
theorem dX4_hashBlock_2 : decode cX4_hashBlock 2 = .ok (.iload_n 2, 1) := by decide +kernel
theorem dX4_hashBlock_3 : decode cX4_hashBlock 3 = .ok (.bipush 64, 2) := by decide +kernel
theorem dX4_hashBlock_5 : decode cX4_hashBlock 5 = .ok (.if_icmp .ge 165, 3) := by decide +kernel
theorem dX4_hashBlock_8 : decode cX4_hashBlock 8 = .ok (.iload_n 2, 1) := by decide +kernel
theorem dX4_hashBlock_9 : decode cX4_hashBlock 9 = .ok (.bipush 16, 2) := by decide +kernel
theorem dX4_hashBlock_11 : decode cX4_hashBlock 11 = .ok (.if_icmp .ge 60, 3) := by decide +kernel
theorem dX4_hashBlock_14 : decode cX4_hashBlock 14 = .ok (.iload_n 1, 1) := by decide +kernel
theorem dX4_hashBlock_15 : decode cX4_hashBlock 15 = .ok (.iconst 4, 1) := by decide +kernel
theorem dX4_hashBlock_16 : decode cX4_hashBlock 16 = .ok (.iload_n 2, 1) := by decide +kernel
theorem dX4_hashBlock_17 : decode cX4_hashBlock 17 = .ok (.imul, 1) := by decide +kernel
theorem dX4_hashBlock_18 : decode cX4_hashBlock 18 = .ok (.iadd, 1) := by decide +kernel
theorem dX4_hashBlock_19 : decode cX4_hashBlock 19 = .ok (.istore_n 3, 1) := by decide +kernel
theorem dX4_hashBlock_20 : decode cX4_hashBlock 20 = .ok (.aload_n 0, 1) := by decide +kernel
theorem dX4_hashBlock_21 : decode cX4_hashBlock 21 = .ok (.getfield 91, 3) := by decide +kernel
theorem dX4_hashBlock_24 : decode cX4_hashBlock 24 = .ok (.iload_n 2, 1) := by decide +kernel
theorem dX4_hashBlock_25 : decode cX4_hashBlock 25 = .ok (.aload_n 0, 1) := by decide +kernel
theorem dX4_hashBlock_26 : decode cX4_hashBlock 26 = .ok (.getfield 94, 3) := by decide +kernel
theorem dX4_hashBlock_29 : decode cX4_hashBlock 29 = .ok (.iload_n 3, 1) := by decide +kernel
theorem dX4_hashBlock_30 : decode cX4_hashBlock 30 = .ok (.iaload, 1) := by decide +kernel
theorem dX4_hashBlock_31 : decode cX4_hashBlock 31 = .ok (.bipush 24, 2) := by decide +kernel
theorem dX4_hashBlock_33 : decode cX4_hashBlock 33 = .ok (.ishl, 1) := by decide +kernel
theorem dX4_hashBlock_34 : decode cX4_hashBlock 34 = .ok (.aload_n 0, 1) := by decide +kernel
theorem dX4_hashBlock_35 : decode cX4_hashBlock 35 = .ok (.getfield 94, 3) := by decide +kernel
theorem dX4_hashBlock_38 : decode cX4_hashBlock 38 = .ok (.iload_n 3, 1) := by decide +kernel
theorem dX4_hashBlock_39 : decode cX4_hashBlock 39 = .ok (.iconst 1, 1) := by decide +kernel
theorem dX4_hashBlock_40 : decode cX4_hashBlock 40 = .ok (.iadd, 1) := by decide +kernel
theorem dX4_hashBlock_41 : decode cX4_hashBlock 41 = .ok (.iaload, 1) := by decide +kernel
theorem dX4_hashBlock_42 : decode cX4_hashBlock 42 = .ok (.bipush 16, 2) := by decide +kernel
theorem dX4_hashBlock_44 : decode cX4_hashBlock 44 = .ok (.ishl, 1) := by decide +kernel
theorem dX4_hashBlock_45 : decode cX4_hashBlock 45 = .ok (.ior, 1) := by decide +kernel
theorem dX4_hashBlock_46 : decode cX4_hashBlock 46 = .ok (.aload_n 0, 1) := by decide +kernel
theorem dX4_hashBlock_47 : decode cX4_hashBlock 47 = .ok (.getfield 94, 3) := by decide +kernel
theorem dX4_hashBlock_50 : decode cX4_hashBlock 50 = .ok (.iload_n 3, 1) := by decide +kernel
theorem dX4_hashBlock_51 : decode cX4_hashBlock 51 = .ok (.iconst 2, 1) := by decide +kernel
theorem dX4_hashBlock_52 : decode cX4_hashBlock 52 = .ok (.iadd, 1) := by decide +kernel
theorem dX4_hashBlock_53 : decode cX4_hashBlock 53 = .ok (.iaload, 1) := by decide +kernel
theorem dX4_hashBlock_54 : decode cX4_hashBlock 54 = .ok (.bipush 8, 2) := by decide +kernel
theorem dX4_hashBlock_56 : decode cX4_hashBlock 56 = .ok (.ishl, 1) := by decide +kernel
theorem dX4_hashBlock_57 : decode cX4_hashBlock 57 = .ok (.ior, 1) := by decide +kernel
theorem dX4_hashBlock_58 : decode cX4_hashBlock 58 = .ok (.aload_n 0, 1) := by decide +kernel
theorem dX4_hashBlock_59 : decode cX4_hashBlock 59 = .ok (.getfield 94, 3) := by decide +kernel
theorem dX4_hashBlock_62 : decode cX4_hashBlock 62 = .ok (.iload_n 3, 1) := by decide +kernel
theorem dX4_hashBlock_63 : decode cX4_hashBlock 63 = .ok (.iconst 3, 1) := by decide +kernel
theorem dX4_hashBlock_64 : decode cX4_hashBlock 64 = .ok (.iadd, 1) := by decide +kernel
theorem dX4_hashBlock_65 : decode cX4_hashBlock 65 = .ok (.iaload, 1) := by decide +kernel
theorem dX4_hashBlock_66 : decode cX4_hashBlock 66 = .ok (.ior, 1) := by decide +kernel
theorem dX4_hashBlock_67 : decode cX4_hashBlock 67 = .ok (.iastore, 1) := by decide +kernel
theorem dX4_hashBlock_68 : decode cX4_hashBlock 68 = .ok (.goto 96, 3) := by decide +kernel
theorem dX4_hashBlock_71 : decode cX4_hashBlock 71 = .ok (.aload_n 0, 1) := by decide +kernel
theorem dX4_hashBlock_72 : decode cX4_hashBlock 72 = .ok (.getfield 91, 3) := by decide +kernel
theorem dX4_hashBlock_75 : decode cX4_hashBlock 75 = .ok (.iload_n 2, 1) := by decide +kernel
theorem dX4_hashBlock_76 : decode cX4_hashBlock 76 = .ok (.bipush 15, 2) := by decide +kernel
theorem dX4_hashBlock_78 : decode cX4_hashBlock 78 = .ok (.isub, 1) := by decide +kernel
theorem dX4_hashBlock_79 : decode cX4_hashBlock 79 = .ok (.iaload, 1) := by decide +kernel
theorem dX4_hashBlock_80 : decode cX4_hashBlock 80 = .ok (.istore_n 3, 1) := by decide +kernel
theorem dX4_hashBlock_81 : decode cX4_hashBlock 81 = .ok (.aload_n 0, 1) := by decide +kernel
theorem dX4_hashBlock_82 : decode cX4_hashBlock 82 = .ok (.getfield 91, 3) := by decide +kernel
theorem dX4_hashBlock_85 : decode cX4_hashBlock 85 = .ok (.iload_n 2, 1) := by decide +kernel
theorem dX4_hashBlock_86 : decode cX4_hashBlock 86 = .ok (.iconst 2, 1) := by decide +kernel
theorem dX4_hashBlock_87 : decode cX4_hashBlock 87 = .ok (.isub, 1) := by decide +kernel
theorem dX4_hashBlock_88 : decode cX4_hashBlock 88 = .ok (.iaload, 1) := by decide +kernel
theorem dX4_hashBlock_89 : decode cX4_hashBlock 89 = .ok (.istore 4, 2) := by decide +kernel
theorem dX4_hashBlock_91 : decode cX4_hashBlock 91 = .ok (.iload_n 3, 1) := by decide +kernel
theorem dX4_hashBlock_92 : decode cX4_hashBlock 92 = .ok (.bipush 7, 2) := by decide +kernel
theorem dX4_hashBlock_94 : decode cX4_hashBlock 94 = .ok (.invokestatic 128, 3) := by decide +kernel
theorem dX4_hashBlock_97 : decode cX4_hashBlock 97 = .ok (.iload_n 3, 1) := by decide +kernel
theorem dX4_hashBlock_98 : decode cX4_hashBlock 98 = .ok (.bipush 18, 2) := by decide +kernel
theorem dX4_hashBlock_100 : decode cX4_hashBlock 100 = .ok (.invokestatic 128, 3) := by decide +kernel
theorem dX4_hashBlock_103 : decode cX4_hashBlock 103 = .ok (.ixor, 1) := by decide +kernel
theorem dX4_hashBlock_104 : decode cX4_hashBlock 104 = .ok (.iload_n 3, 1) := by decide +kernel
theorem dX4_hashBlock_105 : decode cX4_hashBlock 105 = .ok (.iconst 3, 1) := by decide +kernel
theorem dX4_hashBlock_106 : decode cX4_hashBlock 106 = .ok (.iushr, 1) := by decide +kernel
theorem dX4_hashBlock_107 : decode cX4_hashBlock 107 = .ok (.ixor, 1) := by decide +kernel
theorem dX4_hashBlock_108 : decode cX4_hashBlock 108 = .ok (.istore 5, 2) := by decide +kernel
theorem dX4_hashBlock_110 : decode cX4_hashBlock 110 = .ok (.iload 4, 2) := by decide +kernel
theorem dX4_hashBlock_112 : decode cX4_hashBlock 112 = .ok (.bipush 17, 2) := by decide +kernel
theorem dX4_hashBlock_114 : decode cX4_hashBlock 114 = .ok (.invokestatic 128, 3) := by decide +kernel
theorem dX4_hashBlock_117 : decode cX4_hashBlock 117 = .ok (.iload 4, 2) := by decide +kernel
theorem dX4_hashBlock_119 : decode cX4_hashBlock 119 = .ok (.bipush 19, 2) := by decide +kernel
theorem dX4_hashBlock_121 : decode cX4_hashBlock 121 = .ok (.invokestatic 128, 3) := by decide +kernel
theorem dX4_hashBlock_124 : decode cX4_hashBlock 124 = .ok (.ixor, 1) := by decide +kernel
theorem dX4_hashBlock_125 : decode cX4_hashBlock 125 = .ok (.iload 4, 2) := by decide +kernel
theorem dX4_hashBlock_127 : decode cX4_hashBlock 127 = .ok (.bipush 10, 2) := by decide +kernel
theorem dX4_hashBlock_129 : decode cX4_hashBlock 129 = .ok (.iushr, 1) := by decide +kernel
theorem dX4_hashBlock_130 : decode cX4_hashBlock 130 = .ok (.ixor, 1) := by decide +kernel
theorem dX4_hashBlock_131 : decode cX4_hashBlock 131 = .ok (.istore 6, 2) := by decide +kernel
theorem dX4_hashBlock_133 : decode cX4_hashBlock 133 = .ok (.aload_n 0, 1) := by decide +kernel
theorem dX4_hashBlock_134 : decode cX4_hashBlock 134 = .ok (.getfield 91, 3) := by decide +kernel
theorem dX4_hashBlock_137 : decode cX4_hashBlock 137 = .ok (.iload_n 2, 1) := by decide +kernel
theorem dX4_hashBlock_138 : decode cX4_hashBlock 138 = .ok (.aload_n 0, 1) := by decide +kernel
theorem dX4_hashBlock_139 : decode cX4_hashBlock 139 = .ok (.getfield 91, 3) := by decide +kernel
theorem dX4_hashBlock_142 : decode cX4_hashBlock 142 = .ok (.iload_n 2, 1) := by decide +kernel
theorem dX4_hashBlock_143 : decode cX4_hashBlock 143 = .ok (.bipush 16, 2) := by decide +kernel
theorem dX4_hashBlock_145 : decode cX4_hashBlock 145 = .ok (.isub, 1) := by decide +kernel
theorem dX4_hashBlock_146 : decode cX4_hashBlock 146 = .ok (.iaload, 1) := by decide +kernel
theorem dX4_hashBlock_147 : decode cX4_hashBlock 147 = .ok (.iload 5, 2) := by decide +kernel
theorem dX4_hashBlock_149 : decode cX4_hashBlock 149 = .ok (.iadd, 1) := by decide +kernel
theorem dX4_hashBlock_150 : decode cX4_hashBlock 150 = .ok (.aload_n 0, 1) := by decide +kernel
theorem dX4_hashBlock_151 : decode cX4_hashBlock 151 = .ok (.getfield 91, 3) := by decide +kernel
theorem dX4_hashBlock_154 : decode cX4_hashBlock 154 = .ok (.iload_n 2, 1) := by decide +kernel
theorem dX4_hashBlock_155 : decode cX4_hashBlock 155 = .ok (.bipush 7, 2) := by decide +kernel
theorem dX4_hashBlock_157 : decode cX4_hashBlock 157 = .ok (.isub, 1) := by decide +kernel
theorem dX4_hashBlock_158 : decode cX4_hashBlock 158 = .ok (.iaload, 1) := by decide +kernel
theorem dX4_hashBlock_159 : decode cX4_hashBlock 159 = .ok (.iadd, 1) := by decide +kernel
theorem dX4_hashBlock_160 : decode cX4_hashBlock 160 = .ok (.iload 6, 2) := by decide +kernel
theorem dX4_hashBlock_162 : decode cX4_hashBlock 162 = .ok (.iadd, 1) := by decide +kernel
theorem dX4_hashBlock_163 : decode cX4_hashBlock 163 = .ok (.iastore, 1) := by decide +kernel
theorem dX4_hashBlock_164 : decode cX4_hashBlock 164 = .ok (.iinc 2 1, 3) := by decide +kernel
theorem dX4_hashBlock_167 : decode cX4_hashBlock 167 = .ok (.goto (-165), 3) := by decide +kernel
theorem dX4_hashBlock_170 : decode cX4_hashBlock 170 = .ok (.aload_n 0, 1) := by decide +kernel
theorem dX4_hashBlock_171 : decode cX4_hashBlock 171 = .ok (.getfield 88, 3) := by decide +kernel
theorem dX4_hashBlock_174 : decode cX4_hashBlock 174 = .ok (.iconst 0, 1) := by decide +kernel
theorem dX4_hashBlock_175 : decode cX4_hashBlock 175 = .ok (.iaload, 1) := by decide +kernel
theorem dX4_hashBlock_176 : decode cX4_hashBlock 176 = .ok (.istore_n 2, 1) := by decide +kernel
theorem dX4_hashBlock_177 : decode cX4_hashBlock 177 = .ok (.aload_n 0, 1) := by decide +kernel
theorem dX4_hashBlock_178 : decode cX4_hashBlock 178 = .ok (.getfield 88, 3) := by decide +kernel
theorem dX4_hashBlock_181 : decode cX4_hashBlock 181 = .ok (.iconst 1, 1) := by decide +kernel
theorem dX4_hashBlock_182 : decode cX4_hashBlock 182 = .ok (.iaload, 1) := by decide +kernel
theorem dX4_hashBlock_183 : decode cX4_hashBlock 183 = .ok (.istore_n 3, 1) := by decide +kernel
theorem dX4_hashBlock_184 : decode cX4_hashBlock 184 = .ok (.aload_n 0, 1) := by decide +kernel
theorem dX4_hashBlock_185 : decode cX4_hashBlock 185 = .ok (.getfield 88, 3) := by decide +kernel
theorem dX4_hashBlock_188 : decode cX4_hashBlock 188 = .ok (.iconst 2, 1) := by decide +kernel
theorem dX4_hashBlock_189 : decode cX4_hashBlock 189 = .ok (.iaload, 1) := by decide +kernel
theorem dX4_hashBlock_190 : decode cX4_hashBlock 190 = .ok (.istore 4, 2) := by decide +kernel
theorem dX4_hashBlock_192 : decode cX4_hashBlock 192 = .ok (.aload_n 0, 1) := by decide +kernel
theorem dX4_hashBlock_193 : decode cX4_hashBlock 193 = .ok (.getfield 88, 3) := by decide +kernel
theorem dX4_hashBlock_196 : decode cX4_hashBlock 196 = .ok (.iconst 3, 1) := by decide +kernel
theorem dX4_hashBlock_197 : decode cX4_hashBlock 197 = .ok (.iaload, 1) := by decide +kernel
theorem dX4_hashBlock_198 : decode cX4_hashBlock 198 = .ok (.istore 5, 2) := by decide +kernel
theorem dX4_hashBlock_200 : decode cX4_hashBlock 200 = .ok (.aload_n 0, 1) := by decide +kernel
theorem dX4_hashBlock_201 : decode cX4_hashBlock 201 = .ok (.getfield 88, 3) := by decide +kernel
theorem dX4_hashBlock_204 : decode cX4_hashBlock 204 = .ok (.iconst 4, 1) := by decide +kernel
theorem dX4_hashBlock_205 : decode cX4_hashBlock 205 = .ok (.iaload, 1) := by decide +kernel
theorem dX4_hashBlock_206 : decode cX4_hashBlock 206 = .ok (.istore 6, 2) := by decide +kernel
theorem dX4_hashBlock_208 : decode cX4_hashBlock 208 = .ok (.aload_n 0, 1) := by decide +kernel
theorem dX4_hashBlock_209 : decode cX4_hashBlock 209 = .ok (.getfield 88, 3) := by decide +kernel
theorem dX4_hashBlock_212 : decode cX4_hashBlock 212 = .ok (.iconst 5, 1) := by decide +kernel
theorem dX4_hashBlock_213 : decode cX4_hashBlock 213 = .ok (.iaload, 1) := by decide +kernel
theorem dX4_hashBlock_214 : decode cX4_hashBlock 214 = .ok (.istore 7, 2) := by decide +kernel
theorem dX4_hashBlock_216 : decode cX4_hashBlock 216 = .ok (.aload_n 0, 1) := by decide +kernel
theorem dX4_hashBlock_217 : decode cX4_hashBlock 217 = .ok (.getfield 88, 3) := by decide +kernel
theorem dX4_hashBlock_220 : decode cX4_hashBlock 220 = .ok (.bipush 6, 2) := by decide +kernel
theorem dX4_hashBlock_222 : decode cX4_hashBlock 222 = .ok (.iaload, 1) := by decide +kernel
theorem dX4_hashBlock_223 : decode cX4_hashBlock 223 = .ok (.istore 8, 2) := by decide +kernel
theorem dX4_hashBlock_225 : decode cX4_hashBlock 225 = .ok (.aload_n 0, 1) := by decide +kernel
theorem dX4_hashBlock_226 : decode cX4_hashBlock 226 = .ok (.getfield 88, 3) := by decide +kernel
theorem dX4_hashBlock_229 : decode cX4_hashBlock 229 = .ok (.bipush 7, 2) := by decide +kernel
theorem dX4_hashBlock_231 : decode cX4_hashBlock 231 = .ok (.iaload, 1) := by decide +kernel
theorem dX4_hashBlock_232 : decode cX4_hashBlock 232 = .ok (.istore 9, 2) := by decide +kernel
theorem dX4_hashBlock_234 : decode cX4_hashBlock 234 = .ok (.iconst 0, 1) := by decide +kernel
theorem dX4_hashBlock_235 : decode cX4_hashBlock 235 = .ok (.istore 10, 2) := by decide +kernel
theorem dX4_hashBlock_237 : decode cX4_hashBlock 237 = .ok (.iload 10, 2) := by decide +kernel
theorem dX4_hashBlock_239 : decode cX4_hashBlock 239 = .ok (.bipush 64, 2) := by decide +kernel
theorem dX4_hashBlock_241 : decode cX4_hashBlock 241 = .ok (.if_icmp .ge 136, 3) := by decide +kernel
theorem dX4_hashBlock_244 : decode cX4_hashBlock 244 = .ok (.iload 9, 2) := by decide +kernel
theorem dX4_hashBlock_246 : decode cX4_hashBlock 246 = .ok (.iload 6, 2) := by decide +kernel
theorem dX4_hashBlock_248 : decode cX4_hashBlock 248 = .ok (.bipush 6, 2) := by decide +kernel
theorem dX4_hashBlock_250 : decode cX4_hashBlock 250 = .ok (.invokestatic 128, 3) := by decide +kernel
theorem dX4_hashBlock_253 : decode cX4_hashBlock 253 = .ok (.iload 6, 2) := by decide +kernel
theorem dX4_hashBlock_255 : decode cX4_hashBlock 255 = .ok (.bipush 11, 2) := by decide +kernel
theorem dX4_hashBlock_257 : decode cX4_hashBlock 257 = .ok (.invokestatic 128, 3) := by decide +kernel
theorem dX4_hashBlock_260 : decode cX4_hashBlock 260 = .ok (.ixor, 1) := by decide +kernel
theorem dX4_hashBlock_261 : decode cX4_hashBlock 261 = .ok (.iload 6, 2) := by decide +kernel
theorem dX4_hashBlock_263 : decode cX4_hashBlock 263 = .ok (.bipush 25, 2) := by decide +kernel
theorem dX4_hashBlock_265 : decode cX4_hashBlock 265 = .ok (.invokestatic 128, 3) := by decide +kernel
theorem dX4_hashBlock_268 : decode cX4_hashBlock 268 = .ok (.ixor, 1) := by decide +kernel
theorem dX4_hashBlock_269 : decode cX4_hashBlock 269 = .ok (.iadd, 1) := by decide +kernel
theorem dX4_hashBlock_270 : decode cX4_hashBlock 270 = .ok (.iload 6, 2) := by decide +kernel
theorem dX4_hashBlock_272 : decode cX4_hashBlock 272 = .ok (.iload 7, 2) := by decide +kernel
theorem dX4_hashBlock_274 : decode cX4_hashBlock 274 = .ok (.iand, 1) := by decide +kernel
theorem dX4_hashBlock_275 : decode cX4_hashBlock 275 = .ok (.iload 6, 2) := by decide +kernel
theorem dX4_hashBlock_277 : decode cX4_hashBlock 277 = .ok (.iconst (-1), 1) := by decide +kernel
theorem dX4_hashBlock_278 : decode cX4_hashBlock 278 = .ok (.ixor, 1) := by decide +kernel
theorem dX4_hashBlock_279 : decode cX4_hashBlock 279 = .ok (.iload 8, 2) := by decide +kernel
theorem dX4_hashBlock_281 : decode cX4_hashBlock 281 = .ok (.iand, 1) := by decide +kernel
theorem dX4_hashBlock_282 : decode cX4_hashBlock 282 = .ok (.ixor, 1) := by decide +kernel
theorem dX4_hashBlock_283 : decode cX4_hashBlock 283 = .ok (.iadd, 1) := by decide +kernel
theorem dX4_hashBlock_284 : decode cX4_hashBlock 284 = .ok (.aload_n 0, 1) := by decide +kernel
theorem dX4_hashBlock_285 : decode cX4_hashBlock 285 = .ok (.getfield 71, 3) := by decide +kernel
theorem dX4_hashBlock_288 : decode cX4_hashBlock 288 = .ok (.iload 10, 2) := by decide +kernel
theorem dX4_hashBlock_290 : decode cX4_hashBlock 290 = .ok (.iaload, 1) := by decide +kernel
theorem dX4_hashBlock_291 : decode cX4_hashBlock 291 = .ok (.iadd, 1) := by decide +kernel
theorem dX4_hashBlock_292 : decode cX4_hashBlock 292 = .ok (.aload_n 0, 1) := by decide +kernel
theorem dX4_hashBlock_293 : decode cX4_hashBlock 293 = .ok (.getfield 91, 3) := by decide +kernel
theorem dX4_hashBlock_296 : decode cX4_hashBlock 296 = .ok (.iload 10, 2) := by decide +kernel
theorem dX4_hashBlock_298 : decode cX4_hashBlock 298 = .ok (.iaload, 1) := by decide +kernel
theorem dX4_hashBlock_299 : decode cX4_hashBlock 299 = .ok (.iadd, 1) := by decide +kernel
theorem dX4_hashBlock_300 : decode cX4_hashBlock 300 = .ok (.istore 11, 2) := by decide +kernel
theorem dX4_hashBlock_302 : decode cX4_hashBlock 302 = .ok (.iload_n 2, 1) := by decide +kernel
theorem dX4_hashBlock_303 : decode cX4_hashBlock 303 = .ok (.iconst 2, 1) := by decide +kernel
theorem dX4_hashBlock_304 : decode cX4_hashBlock 304 = .ok (.invokestatic 128, 3) := by decide +kernel
theorem dX4_hashBlock_307 : decode cX4_hashBlock 307 = .ok (.iload_n 2, 1) := by decide +kernel
theorem dX4_hashBlock_308 : decode cX4_hashBlock 308 = .ok (.bipush 13, 2) := by decide +kernel
theorem dX4_hashBlock_310 : decode cX4_hashBlock 310 = .ok (.invokestatic 128, 3) := by decide +kernel
theorem dX4_hashBlock_313 : decode cX4_hashBlock 313 = .ok (.ixor, 1) := by decide +kernel
theorem dX4_hashBlock_314 : decode cX4_hashBlock 314 = .ok (.iload_n 2, 1) := by decide +kernel
theorem dX4_hashBlock_315 : decode cX4_hashBlock 315 = .ok (.bipush 22, 2) := by decide +kernel
theorem dX4_hashBlock_317 : decode cX4_hashBlock 317 = .ok (.invokestatic 128, 3) := by decide +kernel
theorem dX4_hashBlock_320 : decode cX4_hashBlock 320 = .ok (.ixor, 1) := by decide +kernel
theorem dX4_hashBlock_321 : decode cX4_hashBlock 321 = .ok (.iload_n 2, 1) := by decide +kernel
theorem dX4_hashBlock_322 : decode cX4_hashBlock 322 = .ok (.iload_n 3, 1) := by decide +kernel
theorem dX4_hashBlock_323 : decode cX4_hashBlock 323 = .ok (.iand, 1) := by decide +kernel
theorem dX4_hashBlock_324 : decode cX4_hashBlock 324 = .ok (.iload_n 2, 1) := by decide +kernel
theorem dX4_hashBlock_325 : decode cX4_hashBlock 325 = .ok (.iload 4, 2) := by decide +kernel
theorem dX4_hashBlock_327 : decode cX4_hashBlock 327 = .ok (.iand, 1) := by decide +kernel
theorem dX4_hashBlock_328 : decode cX4_hashBlock 328 = .ok (.ixor, 1) := by decide +kernel
theorem dX4_hashBlock_329 : decode cX4_hashBlock 329 = .ok (.iload_n 3, 1) := by decide +kernel
theorem dX4_hashBlock_330 : decode cX4_hashBlock 330 = .ok (.iload 4, 2) := by decide +kernel
theorem dX4_hashBlock_332 : decode cX4_hashBlock 332 = .ok (.iand, 1) := by decide +kernel
theorem dX4_hashBlock_333 : decode cX4_hashBlock 333 = .ok (.ixor, 1) := by decide +kernel
theorem dX4_hashBlock_334 : decode cX4_hashBlock 334 = .ok (.iadd, 1) := by decide +kernel
theorem dX4_hashBlock_335 : decode cX4_hashBlock 335 = .ok (.istore 12, 2) := by decide +kernel
theorem dX4_hashBlock_337 : decode cX4_hashBlock 337 = .ok (.iload 8, 2) := by decide +kernel
theorem dX4_hashBlock_339 : decode cX4_hashBlock 339 = .ok (.istore 9, 2) := by decide +kernel
theorem dX4_hashBlock_341 : decode cX4_hashBlock 341 = .ok (.iload 7, 2) := by decide +kernel
theorem dX4_hashBlock_343 : decode cX4_hashBlock 343 = .ok (.istore 8, 2) := by decide +kernel
theorem dX4_hashBlock_345 : decode cX4_hashBlock 345 = .ok (.iload 6, 2) := by decide +kernel
theorem dX4_hashBlock_347 : decode cX4_hashBlock 347 = .ok (.istore 7, 2) := by decide +kernel
theorem dX4_hashBlock_349 : decode cX4_hashBlock 349 = .ok (.iload 5, 2) := by decide +kernel
theorem dX4_hashBlock_351 : decode cX4_hashBlock 351 = .ok (.iload 11, 2) := by decide +kernel
theorem dX4_hashBlock_353 : decode cX4_hashBlock 353 = .ok (.iadd, 1) := by decide +kernel
theorem dX4_hashBlock_354 : decode cX4_hashBlock 354 = .ok (.istore 6, 2) := by decide +kernel
theorem dX4_hashBlock_356 : decode cX4_hashBlock 356 = .ok (.iload 4, 2) := by decide +kernel
theorem dX4_hashBlock_358 : decode cX4_hashBlock 358 = .ok (.istore 5, 2) := by decide +kernel
theorem dX4_hashBlock_360 : decode cX4_hashBlock 360 = .ok (.iload_n 3, 1) := by decide +kernel
theorem dX4_hashBlock_361 : decode cX4_hashBlock 361 = .ok (.istore 4, 2) := by decide +kernel
theorem dX4_hashBlock_363 : decode cX4_hashBlock 363 = .ok (.iload_n 2, 1) := by decide +kernel
theorem dX4_hashBlock_364 : decode cX4_hashBlock 364 = .ok (.istore_n 3, 1) := by decide +kernel
theorem dX4_hashBlock_365 : decode cX4_hashBlock 365 = .ok (.iload 11, 2) := by decide +kernel
theorem dX4_hashBlock_367 : decode cX4_hashBlock 367 = .ok (.iload 12, 2) := by decide +kernel
theorem dX4_hashBlock_369 : decode cX4_hashBlock 369 = .ok (.iadd, 1) := by decide +kernel
theorem dX4_hashBlock_370 : decode cX4_hashBlock 370 = .ok (.istore_n 2, 1) := by decide +kernel
theorem dX4_hashBlock_371 : decode cX4_hashBlock 371 = .ok (.iinc 10 1, 3) := by decide +kernel
theorem dX4_hashBlock_374 : decode cX4_hashBlock 374 = .ok (.goto (-137), 3) := by decide +kernel
theorem dX4_hashBlock_377 : decode cX4_hashBlock 377 = .ok (.aload_n 0, 1) := by decide +kernel
theorem dX4_hashBlock_378 : decode cX4_hashBlock 378 = .ok (.getfield 88, 3) := by decide +kernel
theorem dX4_hashBlock_381 : decode cX4_hashBlock 381 = .ok (.iconst 0, 1) := by decide +kernel
theorem dX4_hashBlock_382 : decode cX4_hashBlock 382 = .ok (.aload_n 0, 1) := by decide +kernel
theorem dX4_hashBlock_383 : decode cX4_hashBlock 383 = .ok (.getfield 88, 3) := by decide +kernel
theorem dX4_hashBlock_386 : decode cX4_hashBlock 386 = .ok (.iconst 0, 1) := by decide +kernel
theorem dX4_hashBlock_387 : decode cX4_hashBlock 387 = .ok (.iaload, 1) := by decide +kernel
theorem dX4_hashBlock_388 : decode cX4_hashBlock 388 = .ok (.iload_n 2, 1) := by decide +kernel
theorem dX4_hashBlock_389 : decode cX4_hashBlock 389 = .ok (.iadd, 1) := by decide +kernel
theorem dX4_hashBlock_390 : decode cX4_hashBlock 390 = .ok (.iastore, 1) := by decide +kernel
theorem dX4_hashBlock_391 : decode cX4_hashBlock 391 = .ok (.aload_n 0, 1) := by decide +kernel
theorem dX4_hashBlock_392 : decode cX4_hashBlock 392 = .ok (.getfield 88, 3) := by decide +kernel
theorem dX4_hashBlock_395 : decode cX4_hashBlock 395 = .ok (.iconst 1, 1) := by decide +kernel
theorem dX4_hashBlock_396 : decode cX4_hashBlock 396 = .ok (.aload_n 0, 1) := by decide +kernel
theorem dX4_hashBlock_397 : decode cX4_hashBlock 397 = .ok (.getfield 88, 3) := by decide +kernel
theorem dX4_hashBlock_400 : decode cX4_hashBlock 400 = .ok (.iconst 1, 1) := by decide +kernel
theorem dX4_hashBlock_401 : decode cX4_hashBlock 401 = .ok (.iaload, 1) := by decide +kernel
theorem dX4_hashBlock_402 : decode cX4_hashBlock 402 = .ok (.iload_n 3, 1) := by decide +kernel
theorem dX4_hashBlock_403 : decode cX4_hashBlock 403 = .ok (.iadd, 1) := by decide +kernel
theorem dX4_hashBlock_404 : decode cX4_hashBlock 404 = .ok (.iastore, 1) := by decide +kernel
theorem dX4_hashBlock_405 : decode cX4_hashBlock 405 = .ok (.aload_n 0, 1) := by decide +kernel
theorem dX4_hashBlock_406 : decode cX4_hashBlock 406 = .ok (.getfield 88, 3) := by decide +kernel
theorem dX4_hashBlock_409 : decode cX4_hashBlock 409 = .ok (.iconst 2, 1) := by decide +kernel
theorem dX4_hashBlock_410 : decode cX4_hashBlock 410 = .ok (.aload_n 0, 1) := by decide +kernel
theorem dX4_hashBlock_411 : decode cX4_hashBlock 411 = .ok (.getfield 88, 3) := by decide +kernel
theorem dX4_hashBlock_414 : decode cX4_hashBlock 414 = .ok (.iconst 2, 1) := by decide +kernel
theorem dX4_hashBlock_415 : decode cX4_hashBlock 415 = .ok (.iaload, 1) := by decide +kernel
theorem dX4_hashBlock_416 : decode cX4_hashBlock 416 = .ok (.iload 4, 2) := by decide +kernel
theorem dX4_hashBlock_418 : decode cX4_hashBlock 418 = .ok (.iadd, 1) := by decide +kernel
theorem dX4_hashBlock_419 : decode cX4_hashBlock 419 = .ok (.iastore, 1) := by decide +kernel
theorem dX4_hashBlock_420 : decode cX4_hashBlock 420 = .ok (.aload_n 0, 1) := by decide +kernel
theorem dX4_hashBlock_421 : decode cX4_hashBlock 421 = .ok (.getfield 88, 3) := by decide +kernel
theorem dX4_hashBlock_424 : decode cX4_hashBlock 424 = .ok (.iconst 3, 1) := by decide +kernel
theorem dX4_hashBlock_425 : decode cX4_hashBlock 425 = .ok (.aload_n 0, 1) := by decide +kernel
theorem dX4_hashBlock_426 : decode cX4_hashBlock 426 = .ok (.getfield 88, 3) := by decide +kernel
theorem dX4_hashBlock_429 : decode cX4_hashBlock 429 = .ok (.iconst 3, 1) := by decide +kernel
theorem dX4_hashBlock_430 : decode cX4_hashBlock 430 = .ok (.iaload, 1) := by decide +kernel
theorem dX4_hashBlock_431 : decode cX4_hashBlock 431 = .ok (.iload 5, 2) := by decide +kernel
theorem dX4_hashBlock_433 : decode cX4_hashBlock 433 = .ok (.iadd, 1) := by decide +kernel
theorem dX4_hashBlock_434 : decode cX4_hashBlock 434 = .ok (.iastore, 1) := by decide +kernel
theorem dX4_hashBlock_435 : decode cX4_hashBlock 435 = .ok (.aload_n 0, 1) := by decide +kernel
theorem dX4_hashBlock_436 : decode cX4_hashBlock 436 = .ok (.getfield 88, 3) := by decide +kernel
theorem dX4_hashBlock_439 : decode cX4_hashBlock 439 = .ok (.iconst 4, 1) := by decide +kernel
theorem dX4_hashBlock_440 : decode cX4_hashBlock 440 = .ok (.aload_n 0, 1) := by decide +kernel
theorem dX4_hashBlock_441 : decode cX4_hashBlock 441 = .ok (.getfield 88, 3) := by decide +kernel
theorem dX4_hashBlock_444 : decode cX4_hashBlock 444 = .ok (.iconst 4, 1) := by decide +kernel
theorem dX4_hashBlock_445 : decode cX4_hashBlock 445 = .ok (.iaload, 1) := by decide +kernel
theorem dX4_hashBlock_446 : decode cX4_hashBlock 446 = .ok (.iload 6, 2) := by decide +kernel
theorem dX4_hashBlock_448 : decode cX4_hashBlock 448 = .ok (.iadd, 1) := by decide +kernel
theorem dX4_hashBlock_449 : decode cX4_hashBlock 449 = .ok (.iastore, 1) := by decide +kernel
theorem dX4_hashBlock_450 : decode cX4_hashBlock 450 = .ok (.aload_n 0, 1) := by decide +kernel
theorem dX4_hashBlock_451 : decode cX4_hashBlock 451 = .ok (.getfield 88, 3) := by decide +kernel
theorem dX4_hashBlock_454 : decode cX4_hashBlock 454 = .ok (.iconst 5, 1) := by decide +kernel
theorem dX4_hashBlock_455 : decode cX4_hashBlock 455 = .ok (.aload_n 0, 1) := by decide +kernel
theorem dX4_hashBlock_456 : decode cX4_hashBlock 456 = .ok (.getfield 88, 3) := by decide +kernel
theorem dX4_hashBlock_459 : decode cX4_hashBlock 459 = .ok (.iconst 5, 1) := by decide +kernel
theorem dX4_hashBlock_460 : decode cX4_hashBlock 460 = .ok (.iaload, 1) := by decide +kernel
theorem dX4_hashBlock_461 : decode cX4_hashBlock 461 = .ok (.iload 7, 2) := by decide +kernel
theorem dX4_hashBlock_463 : decode cX4_hashBlock 463 = .ok (.iadd, 1) := by decide +kernel
theorem dX4_hashBlock_464 : decode cX4_hashBlock 464 = .ok (.iastore, 1) := by decide +kernel
theorem dX4_hashBlock_465 : decode cX4_hashBlock 465 = .ok (.aload_n 0, 1) := by decide +kernel
theorem dX4_hashBlock_466 : decode cX4_hashBlock 466 = .ok (.getfield 88, 3) := by decide +kernel
theorem dX4_hashBlock_469 : decode cX4_hashBlock 469 = .ok (.bipush 6, 2) := by decide +kernel
theorem dX4_hashBlock_471 : decode cX4_hashBlock 471 = .ok (.aload_n 0, 1) := by decide +kernel
theorem dX4_hashBlock_472 : decode cX4_hashBlock 472 = .ok (.getfield 88, 3) := by decide +kernel
theorem dX4_hashBlock_475 : decode cX4_hashBlock 475 = .ok (.bipush 6, 2) := by decide +kernel
theorem dX4_hashBlock_477 : decode cX4_hashBlock 477 = .ok (.iaload, 1) := by decide +kernel
theorem dX4_hashBlock_478 : decode cX4_hashBlock 478 = .ok (.iload 8, 2) := by decide +kernel
theorem dX4_hashBlock_480 : decode cX4_hashBlock 480 = .ok (.iadd, 1) := by decide +kernel
theorem dX4_hashBlock_481 : decode cX4_hashBlock 481 = .ok (.iastore, 1) := by decide +kernel
theorem dX4_hashBlock_482 : decode cX4_hashBlock 482 = .ok (.aload_n 0, 1) := by decide +kernel
theorem dX4_hashBlock_483 : decode cX4_hashBlock 483 = .ok (.getfield 88, 3) := by decide +kernel
theorem dX4_hashBlock_486 : decode cX4_hashBlock 486 = .ok (.bipush 7, 2) := by decide +kernel
theorem dX4_hashBlock_488 : decode cX4_hashBlock 488 = .ok (.aload_n 0, 1) := by decide +kernel
theorem dX4_hashBlock_489 : decode cX4_hashBlock 489 = .ok (.getfield 88, 3) := by decide +kernel
theorem dX4_hashBlock_492 : decode cX4_hashBlock 492 = .ok (.bipush 7, 2) := by decide +kernel
theorem dX4_hashBlock_494 : decode cX4_hashBlock 494 = .ok (.iaload, 1) := by decide +kernel
theorem dX4_hashBlock_495 : decode cX4_hashBlock 495 = .ok (.iload 9, 2) := by decide +kernel
theorem dX4_hashBlock_497 : decode cX4_hashBlock 497 = .ok (.iadd, 1) := by decide +kernel
theorem dX4_hashBlock_498 : decode cX4_hashBlock 498 = .ok (.iastore, 1) := by decide +kernel
theorem dX4_hashBlock_499 : decode cX4_hashBlock 499 = .ok (.return_, 1) := by decide +kernel
set_option maxRecDepth 20000 in
theorem ggX4_hashRow_X4_put : GoodIn wsX4_hashRow wsX4_put := goodIn_r _ [9, 10, 1, 20, 21, 22, 23, 24, 25, 26, 27, 28, 29, 30, 31, 32, 33, 34, 35, 36, 37, 38, 39, 40, 41] (by decide +kernel) (by decide +kernel)
set_option maxRecDepth 20000 in
theorem gX4_hashRow_X4_put : GoodIn wsX4_hashRow (wsV RX4 135 RX4 yX4_put wsX4_put) := goodIn_app (goodIn_of _ (by decide +kernel)) ggX4_hashRow_X4_put
set_option maxRecDepth 20000 in
theorem ggX4_hashRow_X4_hashBlock : GoodIn wsX4_hashRow wsX4_hashBlock := goodIn_r _ [14, 15, 10, 2, 16, 17, 18, 8, 19, 20, 21, 22, 23, 24, 25, 26, 27, 28, 29, 30, 31, 32, 33, 34, 35, 36, 37, 38, 39, 40, 41] (by decide +kernel) (by decide +kernel)
set_option maxRecDepth 20000 in
theorem gX4_hashRow_X4_hashBlock : GoodIn wsX4_hashRow (wsV RX4 139 RX4 yX4_hashBlock wsX4_hashBlock) := goodIn_app (goodIn_of _ (by decide +kernel)) ggX4_hashRow_X4_hashBlock
theorem dX4_hashRow_0 : decode cX4_hashRow 0 = .ok (.bipush 8, 2) := by decide +kernel
theorem dX4_hashRow_2 : decode cX4_hashRow 2 = .ok (.aload_n 0, 1) := by decide +kernel
theorem dX4_hashRow_3 : decode cX4_hashRow 3 = .ok (.getfield 132, 3) := by decide +kernel
theorem dX4_hashRow_6 : decode cX4_hashRow 6 = .ok (.imul, 1) := by decide +kernel
theorem dX4_hashRow_7 : decode cX4_hashRow 7 = .ok (.istore_n 1, 1) := by decide +kernel
theorem dX4_hashRow_8 : decode cX4_hashRow 8 = .ok (.aload_n 0, 1) := by decide +kernel
theorem dX4_hashRow_9 : decode cX4_hashRow 9 = .ok (.sipush 128, 3) := by decide +kernel
theorem dX4_hashRow_12 : decode cX4_hashRow 12 = .ok (.invokevirtual 135, 3) := by decide +kernel
theorem dX4_hashRow_15 : decode cX4_hashRow 15 = .ok (.aload_n 0, 1) := by decide +kernel
theorem dX4_hashRow_16 : decode cX4_hashRow 16 = .ok (.getfield 132, 3) := by decide +kernel
theorem dX4_hashRow_19 : decode cX4_hashRow 19 = .ok (.bipush 64, 2) := by decide +kernel
theorem dX4_hashRow_21 : decode cX4_hashRow 21 = .ok (.irem, 1) := by decide +kernel
theorem dX4_hashRow_22 : decode cX4_hashRow 22 = .ok (.bipush 56, 2) := by decide +kernel
theorem dX4_hashRow_24 : decode cX4_hashRow 24 = .ok (.if_icmp .eq 11, 3) := by decide +kernel
theorem dX4_hashRow_27 : decode cX4_hashRow 27 = .ok (.aload_n 0, 1) := by decide +kernel
theorem dX4_hashRow_28 : decode cX4_hashRow 28 = .ok (.iconst 0, 1) := by decide +kernel
theorem dX4_hashRow_29 : decode cX4_hashRow 29 = .ok (.invokevirtual 135, 3) := by decide +kernel
theorem dX4_hashRow_32 : decode cX4_hashRow 32 = .ok (.goto (-17), 3) := by decide +kernel
theorem dX4_hashRow_35 : decode cX4_hashRow 35 = .ok (.iconst 0, 1) := by decide +kernel
theorem dX4_hashRow_36 : decode cX4_hashRow 36 = .ok (.istore_n 2, 1) := by decide +kernel
theorem dX4_hashRow_37 : decode cX4_hashRow 37 = .ok (.iload_n 2, 1) := by decide +kernel
theorem dX4_hashRow_38 : decode cX4_hashRow 38 = .ok (.bipush 8, 2) := by decide +kernel
theorem dX4_hashRow_40 : decode cX4_hashRow 40 = .ok (.if_icmp .ge 31, 3) := by decide +kernel
theorem dX4_hashRow_43 : decode cX4_hashRow 43 = .ok (.aload_n 0, 1) := by decide +kernel
theorem dX4_hashRow_44 : decode cX4_hashRow 44 = .ok (.iload_n 2, 1) := by decide +kernel
theorem dX4_hashRow_45 : decode cX4_hashRow 45 = .ok (.iconst 4, 1) := by decide +kernel
theorem dX4_hashRow_46 : decode cX4_hashRow 46 = .ok (.if_icmp .ge 7, 3) := by decide +kernel
theorem dX4_hashRow_49 : decode cX4_hashRow 49 = .ok (.iconst 0, 1) := by decide +kernel
theorem dX4_hashRow_50 : decode cX4_hashRow 50 = .ok (.goto 12, 3) := by decide +kernel
theorem dX4_hashRow_53 : decode cX4_hashRow 53 = .ok (.iload_n 1, 1) := by decide +kernel
theorem dX4_hashRow_54 : decode cX4_hashRow 54 = .ok (.bipush 56, 2) := by decide +kernel
theorem dX4_hashRow_56 : decode cX4_hashRow 56 = .ok (.bipush 8, 2) := by decide +kernel
theorem dX4_hashRow_58 : decode cX4_hashRow 58 = .ok (.iload_n 2, 1) := by decide +kernel
theorem dX4_hashRow_59 : decode cX4_hashRow 59 = .ok (.imul, 1) := by decide +kernel
theorem dX4_hashRow_60 : decode cX4_hashRow 60 = .ok (.isub, 1) := by decide +kernel
theorem dX4_hashRow_61 : decode cX4_hashRow 61 = .ok (.ishr, 1) := by decide +kernel
theorem dX4_hashRow_62 : decode cX4_hashRow 62 = .ok (.invokevirtual 135, 3) := by decide +kernel
theorem dX4_hashRow_65 : decode cX4_hashRow 65 = .ok (.iinc 2 1, 3) := by decide +kernel
theorem dX4_hashRow_68 : decode cX4_hashRow 68 = .ok (.goto (-31), 3) := by decide +kernel
theorem dX4_hashRow_71 : decode cX4_hashRow 71 = .ok (.iconst 0, 1) := by decide +kernel
theorem dX4_hashRow_72 : decode cX4_hashRow 72 = .ok (.istore_n 2, 1) := by decide +kernel
theorem dX4_hashRow_73 : decode cX4_hashRow 73 = .ok (.iload_n 2, 1) := by decide +kernel
theorem dX4_hashRow_74 : decode cX4_hashRow 74 = .ok (.bipush 8, 2) := by decide +kernel
theorem dX4_hashRow_76 : decode cX4_hashRow 76 = .ok (.if_icmp .ge 21, 3) := by decide +kernel
theorem dX4_hashRow_79 : decode cX4_hashRow 79 = .ok (.aload_n 0, 1) := by decide +kernel
theorem dX4_hashRow_80 : decode cX4_hashRow 80 = .ok (.getfield 88, 3) := by decide +kernel
theorem dX4_hashRow_83 : decode cX4_hashRow 83 = .ok (.iload_n 2, 1) := by decide +kernel
theorem dX4_hashRow_84 : decode cX4_hashRow 84 = .ok (.aload_n 0, 1) := by decide +kernel
theorem dX4_hashRow_85 : decode cX4_hashRow 85 = .ok (.getfield 85, 3) := by decide +kernel
theorem dX4_hashRow_88 : decode cX4_hashRow 88 = .ok (.iload_n 2, 1) := by decide +kernel
theorem dX4_hashRow_89 : decode cX4_hashRow 89 = .ok (.iaload, 1) := by decide +kernel
theorem dX4_hashRow_90 : decode cX4_hashRow 90 = .ok (.iastore, 1) := by decide +kernel
theorem dX4_hashRow_91 : decode cX4_hashRow 91 = .ok (.iinc 2 1, 3) := by decide +kernel
theorem dX4_hashRow_94 : decode cX4_hashRow 94 = .ok (.goto (-21), 3) := by decide +kernel
theorem dX4_hashRow_97 : decode cX4_hashRow 97 = .ok (.iconst 0, 1) := by decide +kernel
theorem dX4_hashRow_98 : decode cX4_hashRow 98 = .ok (.istore_n 2, 1) := by decide +kernel
theorem dX4_hashRow_99 : decode cX4_hashRow 99 = .ok (.iload_n 2, 1) := by decide +kernel
theorem dX4_hashRow_100 : decode cX4_hashRow 100 = .ok (.aload_n 0, 1) := by decide +kernel
theorem dX4_hashRow_101 : decode cX4_hashRow 101 = .ok (.getfield 132, 3) := by decide +kernel
theorem dX4_hashRow_104 : decode cX4_hashRow 104 = .ok (.if_icmp .ge 14, 3) := by decide +kernel
theorem dX4_hashRow_107 : decode cX4_hashRow 107 = .ok (.aload_n 0, 1) := by decide +kernel
theorem dX4_hashRow_108 : decode cX4_hashRow 108 = .ok (.iload_n 2, 1) := by decide +kernel
theorem dX4_hashRow_109 : decode cX4_hashRow 109 = .ok (.invokevirtual 139, 3) := by decide +kernel
theorem dX4_hashRow_112 : decode cX4_hashRow 112 = .ok (.iinc 2 64, 3) := by decide +kernel
theorem dX4_hashRow_115 : decode cX4_hashRow 115 = .ok (.goto (-16), 3) := by decide +kernel
theorem dX4_hashRow_118 : decode cX4_hashRow 118 = .ok (.iconst 0, 1) := by decide +kernel
theorem dX4_hashRow_119 : decode cX4_hashRow 119 = .ok (.istore_n 2, 1) := by decide +kernel
theorem dX4_hashRow_120 : decode cX4_hashRow 120 = .ok (.iload_n 2, 1) := by decide +kernel
theorem dX4_hashRow_121 : decode cX4_hashRow 121 = .ok (.bipush 32, 2) := by decide +kernel
theorem dX4_hashRow_123 : decode cX4_hashRow 123 = .ok (.if_icmp .ge 37, 3) := by decide +kernel
theorem dX4_hashRow_126 : decode cX4_hashRow 126 = .ok (.aload_n 0, 1) := by decide +kernel
theorem dX4_hashRow_127 : decode cX4_hashRow 127 = .ok (.getfield 97, 3) := by decide +kernel
theorem dX4_hashRow_130 : decode cX4_hashRow 130 = .ok (.iload_n 2, 1) := by decide +kernel
theorem dX4_hashRow_131 : decode cX4_hashRow 131 = .ok (.aload_n 0, 1) := by decide +kernel
theorem dX4_hashRow_132 : decode cX4_hashRow 132 = .ok (.getfield 88, 3) := by decide +kernel
theorem dX4_hashRow_135 : decode cX4_hashRow 135 = .ok (.iload_n 2, 1) := by decide +kernel
theorem dX4_hashRow_136 : decode cX4_hashRow 136 = .ok (.iconst 4, 1) := by decide +kernel
theorem dX4_hashRow_137 : decode cX4_hashRow 137 = .ok (.idiv, 1) := by decide +kernel
theorem dX4_hashRow_138 : decode cX4_hashRow 138 = .ok (.iaload, 1) := by decide +kernel
theorem dX4_hashRow_139 : decode cX4_hashRow 139 = .ok (.bipush 24, 2) := by decide +kernel
theorem dX4_hashRow_141 : decode cX4_hashRow 141 = .ok (.bipush 8, 2) := by decide +kernel
theorem dX4_hashRow_143 : decode cX4_hashRow 143 = .ok (.iload_n 2, 1) := by decide +kernel
theorem dX4_hashRow_144 : decode cX4_hashRow 144 = .ok (.iconst 4, 1) := by decide +kernel
theorem dX4_hashRow_145 : decode cX4_hashRow 145 = .ok (.irem, 1) := by decide +kernel
theorem dX4_hashRow_146 : decode cX4_hashRow 146 = .ok (.imul, 1) := by decide +kernel
theorem dX4_hashRow_147 : decode cX4_hashRow 147 = .ok (.isub, 1) := by decide +kernel
theorem dX4_hashRow_148 : decode cX4_hashRow 148 = .ok (.ishr, 1) := by decide +kernel
theorem dX4_hashRow_149 : decode cX4_hashRow 149 = .ok (.sipush 255, 3) := by decide +kernel
theorem dX4_hashRow_152 : decode cX4_hashRow 152 = .ok (.iand, 1) := by decide +kernel
theorem dX4_hashRow_153 : decode cX4_hashRow 153 = .ok (.iastore, 1) := by decide +kernel
theorem dX4_hashRow_154 : decode cX4_hashRow 154 = .ok (.iinc 2 1, 3) := by decide +kernel
theorem dX4_hashRow_157 : decode cX4_hashRow 157 = .ok (.goto (-37), 3) := by decide +kernel
theorem dX4_hashRow_160 : decode cX4_hashRow 160 = .ok (.aload_n 0, 1) := by decide +kernel
theorem dX4_hashRow_161 : decode cX4_hashRow 161 = .ok (.iconst 0, 1) := by decide +kernel
theorem dX4_hashRow_162 : decode cX4_hashRow 162 = .ok (.putfield 132, 3) := by decide +kernel
theorem dX4_hashRow_165 : decode cX4_hashRow 165 = .ok (.return_, 1) := by decide +kernel
theorem dX4_put_0 : decode cX4_put 0 = .ok (.aload_n 0, 1) := by decide +kernel
theorem dX4_put_1 : decode cX4_put 1 = .ok (.getfield 94, 3) := by decide +kernel
theorem dX4_put_4 : decode cX4_put 4 = .ok (.aload_n 0, 1) := by decide +kernel
theorem dX4_put_5 : decode cX4_put 5 = .ok (.getfield 132, 3) := by decide +kernel
theorem dX4_put_8 : decode cX4_put 8 = .ok (.iload_n 1, 1) := by decide +kernel
theorem dX4_put_9 : decode cX4_put 9 = .ok (.sipush 255, 3) := by decide +kernel
theorem dX4_put_12 : decode cX4_put 12 = .ok (.iand, 1) := by decide +kernel
theorem dX4_put_13 : decode cX4_put 13 = .ok (.iastore, 1) := by decide +kernel
theorem dX4_put_14 : decode cX4_put 14 = .ok (.aload_n 0, 1) := by decide +kernel
theorem dX4_put_15 : decode cX4_put 15 = .ok (.dup, 1) := by decide +kernel
theorem dX4_put_16 : decode cX4_put 16 = .ok (.getfield 132, 3) := by decide +kernel
theorem dX4_put_19 : decode cX4_put 19 = .ok (.iconst 1, 1) := by decide +kernel
theorem dX4_put_20 : decode cX4_put 20 = .ok (.iadd, 1) := by decide +kernel
theorem dX4_put_21 : decode cX4_put 21 = .ok (.putfield 132, 3) := by decide +kernel
theorem dX4_put_24 : decode cX4_put 24 = .ok (.return_, 1) := by decide +kernel
set_option maxRecDepth 20000 in
theorem ggX4_putPad_X4_put : GoodIn wsX4_putPad wsX4_put := goodIn_r _ [6, 7, 8, 9, 10, 11, 12, 13, 14, 15, 16, 17, 18, 19, 20, 21, 22, 23, 24, 25, 26, 27, 28, 29, 30] (by decide +kernel) (by decide +kernel)
set_option maxRecDepth 20000 in
theorem gX4_putPad_X4_put : GoodIn wsX4_putPad (wsV RX4 135 RX4 yX4_put wsX4_put) := goodIn_app (goodIn_of _ (by decide +kernel)) ggX4_putPad_X4_put
theorem dX4_putPad_0 : decode cX4_putPad 0 = .ok (.iconst 0, 1) := by decide +kernel
theorem dX4_putPad_1 : decode cX4_putPad 1 = .ok (.istore_n 2, 1) := by decide +kernel
theorem dX4_putPad_2 : decode cX4_putPad 2 = .ok (.iload_n 2, 1) := by decide +kernel
theorem dX4_putPad_3 : decode cX4_putPad 3 = .ok (.bipush 64, 2) := by decide +kernel
theorem dX4_putPad_5 : decode cX4_putPad 5 = .ok (.if_icmp .ge 21, 3) := by decide +kernel
theorem dX4_putPad_8 : decode cX4_putPad 8 = .ok (.aload_n 0, 1) := by decide +kernel
theorem dX4_putPad_9 : decode cX4_putPad 9 = .ok (.aload_n 0, 1) := by decide +kernel
theorem dX4_putPad_10 : decode cX4_putPad 10 = .ok (.getfield 100, 3) := by decide +kernel
theorem dX4_putPad_13 : decode cX4_putPad 13 = .ok (.iload_n 2, 1) := by decide +kernel
theorem dX4_putPad_14 : decode cX4_putPad 14 = .ok (.iaload, 1) := by decide +kernel
theorem dX4_putPad_15 : decode cX4_putPad 15 = .ok (.iload_n 1, 1) := by decide +kernel
theorem dX4_putPad_16 : decode cX4_putPad 16 = .ok (.ixor, 1) := by decide +kernel
theorem dX4_putPad_17 : decode cX4_putPad 17 = .ok (.invokevirtual 135, 3) := by decide +kernel
theorem dX4_putPad_20 : decode cX4_putPad 20 = .ok (.iinc 2 1, 3) := by decide +kernel
theorem dX4_putPad_23 : decode cX4_putPad 23 = .ok (.goto (-21), 3) := by decide +kernel
theorem dX4_putPad_26 : decode cX4_putPad 26 = .ok (.return_, 1) := by decide +kernel
set_option maxRecDepth 20000 in
theorem ggX4_finishKeyed_X4_hashRow : GoodIn wsX4_finishKeyed wsX4_hashRow := goodIn_r _ [6, 7, 8, 9, 1, 10, 11, 12, 5, 13, 14, 15, 16, 17, 18, 19, 20, 21, 22, 23, 29, 30, 31, 32, 33, 34, 35, 36, 37, 38, 39, 40, 41, 42, 43, 44, 45, 46, 47, 48, 49, 50] (by decide +kernel) (by decide +kernel)
set_option maxRecDepth 20000 in
theorem gX4_finishKeyed_X4_hashRow : GoodIn wsX4_finishKeyed (wsV RX4 142 RX4 yX4_hashRow wsX4_hashRow) := goodIn_app (goodIn_of _ (by decide +kernel)) ggX4_finishKeyed_X4_hashRow
set_option maxRecDepth 20000 in
theorem ggX4_finishKeyed_X4_putPad : GoodIn wsX4_finishKeyed wsX4_putPad := goodIn_r _ [27, 28, 10, 11, 12, 5, 13, 14, 7, 29, 30, 31, 32, 33, 34, 35, 36, 37, 38, 39, 40, 41, 42, 43, 44, 45, 46, 47, 48, 49, 50] (by decide +kernel) (by decide +kernel)
set_option maxRecDepth 20000 in
theorem gX4_finishKeyed_X4_putPad : GoodIn wsX4_finishKeyed (wsV RX4 145 RX4 yX4_putPad wsX4_putPad) := goodIn_app (goodIn_of _ (by decide +kernel)) ggX4_finishKeyed_X4_putPad
set_option maxRecDepth 20000 in
theorem ggX4_finishKeyed_X4_put : GoodIn wsX4_finishKeyed wsX4_put := goodIn_r _ [13, 14, 7, 29, 30, 31, 32, 33, 34, 35, 36, 37, 38, 39, 40, 41, 42, 43, 44, 45, 46, 47, 48, 49, 50] (by decide +kernel) (by decide +kernel)
set_option maxRecDepth 20000 in
theorem gX4_finishKeyed_X4_put : GoodIn wsX4_finishKeyed (wsV RX4 135 RX4 yX4_put wsX4_put) := goodIn_app (goodIn_of _ (by decide +kernel)) ggX4_finishKeyed_X4_put
theorem dX4_finishKeyed_0 : decode cX4_finishKeyed 0 = .ok (.aload_n 0, 1) := by decide +kernel
theorem dX4_finishKeyed_1 : decode cX4_finishKeyed 1 = .ok (.invokevirtual 142, 3) := by decide +kernel
theorem dX4_finishKeyed_4 : decode cX4_finishKeyed 4 = .ok (.aload_n 0, 1) := by decide +kernel
theorem dX4_finishKeyed_5 : decode cX4_finishKeyed 5 = .ok (.bipush 92, 2) := by decide +kernel
theorem dX4_finishKeyed_7 : decode cX4_finishKeyed 7 = .ok (.invokevirtual 145, 3) := by decide +kernel
theorem dX4_finishKeyed_10 : decode cX4_finishKeyed 10 = .ok (.iconst 0, 1) := by decide +kernel
theorem dX4_finishKeyed_11 : decode cX4_finishKeyed 11 = .ok (.istore_n 1, 1) := by decide +kernel
theorem dX4_finishKeyed_12 : decode cX4_finishKeyed 12 = .ok (.iload_n 1, 1) := by decide +kernel
theorem dX4_finishKeyed_13 : decode cX4_finishKeyed 13 = .ok (.bipush 32, 2) := by decide +kernel
theorem dX4_finishKeyed_15 : decode cX4_finishKeyed 15 = .ok (.if_icmp .ge 19, 3) := by decide +kernel
theorem dX4_finishKeyed_18 : decode cX4_finishKeyed 18 = .ok (.aload_n 0, 1) := by decide +kernel
theorem dX4_finishKeyed_19 : decode cX4_finishKeyed 19 = .ok (.aload_n 0, 1) := by decide +kernel
theorem dX4_finishKeyed_20 : decode cX4_finishKeyed 20 = .ok (.getfield 97, 3) := by decide +kernel
theorem dX4_finishKeyed_23 : decode cX4_finishKeyed 23 = .ok (.iload_n 1, 1) := by decide +kernel
theorem dX4_finishKeyed_24 : decode cX4_finishKeyed 24 = .ok (.iaload, 1) := by decide +kernel
theorem dX4_finishKeyed_25 : decode cX4_finishKeyed 25 = .ok (.invokevirtual 135, 3) := by decide +kernel
theorem dX4_finishKeyed_28 : decode cX4_finishKeyed 28 = .ok (.iinc 1 1, 3) := by decide +kernel
theorem dX4_finishKeyed_31 : decode cX4_finishKeyed 31 = .ok (.goto (-19), 3) := by decide +kernel
theorem dX4_finishKeyed_34 : decode cX4_finishKeyed 34 = .ok (.aload_n 0, 1) := by decide +kernel
theorem dX4_finishKeyed_35 : decode cX4_finishKeyed 35 = .ok (.invokevirtual 142, 3) := by decide +kernel
theorem dX4_finishKeyed_38 : decode cX4_finishKeyed 38 = .ok (.return_, 1) := by decide +kernel
set_option maxRecDepth 20000 in
theorem ggX4_beginKeyed_X4_putPad : GoodIn wsX4_beginKeyed wsX4_putPad := goodIn_r _ [8, 1, 9, 10, 11, 7, 12, 13, 14, 15, 16, 17, 18, 19, 20, 21, 22, 23, 24, 25, 26, 27, 28, 29, 30, 31, 32, 33, 34, 35, 36] (by decide +kernel) (by decide +kernel)
set_option maxRecDepth 20000 in
theorem gX4_beginKeyed_X4_putPad : GoodIn wsX4_beginKeyed (wsV RX4 145 RX4 yX4_putPad wsX4_putPad) := goodIn_app (goodIn_of _ (by decide +kernel)) ggX4_beginKeyed_X4_putPad
set_option maxRecDepth 20000 in
theorem ggX4_beginKeyed_X4_put : GoodIn wsX4_beginKeyed wsX4_put := goodIn_r _ [12, 13, 14, 15, 16, 17, 18, 19, 20, 21, 22, 23, 24, 25, 26, 27, 28, 29, 30, 31, 32, 33, 34, 35, 36] (by decide +kernel) (by decide +kernel)
set_option maxRecDepth 20000 in
theorem gX4_beginKeyed_X4_put : GoodIn wsX4_beginKeyed (wsV RX4 135 RX4 yX4_put wsX4_put) := goodIn_app (goodIn_of _ (by decide +kernel)) ggX4_beginKeyed_X4_put
theorem dX4_beginKeyed_0 : decode cX4_beginKeyed 0 = .ok (.iconst 0, 1) := by decide +kernel
theorem dX4_beginKeyed_1 : decode cX4_beginKeyed 1 = .ok (.istore_n 1, 1) := by decide +kernel
theorem dX4_beginKeyed_2 : decode cX4_beginKeyed 2 = .ok (.iload_n 1, 1) := by decide +kernel
theorem dX4_beginKeyed_3 : decode cX4_beginKeyed 3 = .ok (.bipush 64, 2) := by decide +kernel
theorem dX4_beginKeyed_5 : decode cX4_beginKeyed 5 = .ok (.if_icmp .ge 31, 3) := by decide +kernel
theorem dX4_beginKeyed_8 : decode cX4_beginKeyed 8 = .ok (.aload_n 0, 1) := by decide +kernel
theorem dX4_beginKeyed_9 : decode cX4_beginKeyed 9 = .ok (.getfield 100, 3) := by decide +kernel
theorem dX4_beginKeyed_12 : decode cX4_beginKeyed 12 = .ok (.iload_n 1, 1) := by decide +kernel
theorem dX4_beginKeyed_13 : decode cX4_beginKeyed 13 = .ok (.iload_n 1, 1) := by decide +kernel
theorem dX4_beginKeyed_14 : decode cX4_beginKeyed 14 = .ok (.bipush 32, 2) := by decide +kernel
theorem dX4_beginKeyed_16 : decode cX4_beginKeyed 16 = .ok (.if_icmp .ge 12, 3) := by decide +kernel
theorem dX4_beginKeyed_19 : decode cX4_beginKeyed 19 = .ok (.aload_n 0, 1) := by decide +kernel
theorem dX4_beginKeyed_20 : decode cX4_beginKeyed 20 = .ok (.getfield 109, 3) := by decide +kernel
theorem dX4_beginKeyed_23 : decode cX4_beginKeyed 23 = .ok (.iload_n 1, 1) := by decide +kernel
theorem dX4_beginKeyed_24 : decode cX4_beginKeyed 24 = .ok (.iaload, 1) := by decide +kernel
theorem dX4_beginKeyed_25 : decode cX4_beginKeyed 25 = .ok (.goto 4, 3) := by decide +kernel
theorem dX4_beginKeyed_28 : decode cX4_beginKeyed 28 = .ok (.iconst 0, 1) := by decide +kernel
theorem dX4_beginKeyed_29 : decode cX4_beginKeyed 29 = .ok (.iastore, 1) := by decide +kernel
theorem dX4_beginKeyed_30 : decode cX4_beginKeyed 30 = .ok (.iinc 1 1, 3) := by decide +kernel
theorem dX4_beginKeyed_33 : decode cX4_beginKeyed 33 = .ok (.goto (-31), 3) := by decide +kernel
theorem dX4_beginKeyed_36 : decode cX4_beginKeyed 36 = .ok (.aload_n 0, 1) := by decide +kernel
theorem dX4_beginKeyed_37 : decode cX4_beginKeyed 37 = .ok (.bipush 54, 2) := by decide +kernel
theorem dX4_beginKeyed_39 : decode cX4_beginKeyed 39 = .ok (.invokevirtual 145, 3) := by decide +kernel
theorem dX4_beginKeyed_42 : decode cX4_beginKeyed 42 = .ok (.iconst 0, 1) := by decide +kernel
theorem dX4_beginKeyed_43 : decode cX4_beginKeyed 43 = .ok (.istore_n 1, 1) := by decide +kernel
theorem dX4_beginKeyed_44 : decode cX4_beginKeyed 44 = .ok (.iload_n 1, 1) := by decide +kernel
theorem dX4_beginKeyed_45 : decode cX4_beginKeyed 45 = .ok (.bipush 32, 2) := by decide +kernel
theorem dX4_beginKeyed_47 : decode cX4_beginKeyed 47 = .ok (.if_icmp .ge 19, 3) := by decide +kernel
theorem dX4_beginKeyed_50 : decode cX4_beginKeyed 50 = .ok (.aload_n 0, 1) := by decide +kernel
theorem dX4_beginKeyed_51 : decode cX4_beginKeyed 51 = .ok (.aload_n 0, 1) := by decide +kernel
theorem dX4_beginKeyed_52 : decode cX4_beginKeyed 52 = .ok (.getfield 112, 3) := by decide +kernel
theorem dX4_beginKeyed_55 : decode cX4_beginKeyed 55 = .ok (.iload_n 1, 1) := by decide +kernel
theorem dX4_beginKeyed_56 : decode cX4_beginKeyed 56 = .ok (.iaload, 1) := by decide +kernel
theorem dX4_beginKeyed_57 : decode cX4_beginKeyed 57 = .ok (.invokevirtual 135, 3) := by decide +kernel
theorem dX4_beginKeyed_60 : decode cX4_beginKeyed 60 = .ok (.iinc 1 1, 3) := by decide +kernel
theorem dX4_beginKeyed_63 : decode cX4_beginKeyed 63 = .ok (.goto (-19), 3) := by decide +kernel
theorem dX4_beginKeyed_66 : decode cX4_beginKeyed 66 = .ok (.return_, 1) := by decide +kernel
set_option maxRecDepth 20000 in
theorem ggX4_nextValue_X4_beginKeyed : GoodIn wsX4_nextValue wsX4_beginKeyed := goodIn_r _ [7, 8, 9, 1, 10, 11, 12, 6, 13, 14, 15, 16, 17, 18, 19, 39, 40, 41, 42, 43, 44, 45, 46, 47, 48, 49, 50, 51, 52, 53, 54, 55, 56, 57, 58, 59, 60] (by decide +kernel) (by decide +kernel)
set_option maxRecDepth 20000 in
theorem gX4_nextValue_X4_beginKeyed : GoodIn wsX4_nextValue (wsV RX4 148 RX4 yX4_beginKeyed wsX4_beginKeyed) := goodIn_app (goodIn_of _ (by decide +kernel)) ggX4_nextValue_X4_beginKeyed
set_option maxRecDepth 20000 in
theorem ggX4_nextValue_X4_finishKeyed : GoodIn wsX4_nextValue wsX4_finishKeyed := goodIn_r _ [23, 2, 24, 25, 26, 6, 27, 19, 28, 29, 14, 15, 16, 17, 18, 30, 31, 32, 33, 34, 35, 36, 37, 38, 10, 11, 12, 13, 8, 39, 40, 41, 42, 43, 44, 45, 46, 47, 48, 49, 50, 51, 52, 53, 54, 55, 56, 57, 58, 59, 60] (by decide +kernel) (by decide +kernel)
set_option maxRecDepth 20000 in
theorem gX4_nextValue_X4_finishKeyed : GoodIn wsX4_nextValue (wsV RX4 151 RX4 yX4_finishKeyed wsX4_finishKeyed) := goodIn_app (goodIn_of _ (by decide +kernel)) ggX4_nextValue_X4_finishKeyed
theorem dX4_nextValue_0 : decode cX4_nextValue 0 = .ok (.aload_n 0, 1) := by decide +kernel
theorem dX4_nextValue_1 : decode cX4_nextValue 1 = .ok (.invokevirtual 148, 3) := by decide +kernel
theorem dX4_nextValue_4 : decode cX4_nextValue 4 = .ok (.aload_n 0, 1) := by decide +kernel
theorem dX4_nextValue_5 : decode cX4_nextValue 5 = .ok (.invokevirtual 151, 3) := by decide +kernel
theorem dX4_nextValue_8 : decode cX4_nextValue 8 = .ok (.iconst 0, 1) := by decide +kernel
theorem dX4_nextValue_9 : decode cX4_nextValue 9 = .ok (.istore_n 1, 1) := by decide +kernel
theorem dX4_nextValue_10 : decode cX4_nextValue 10 = .ok (.iload_n 1, 1) := by decide +kernel
theorem dX4_nextValue_11 : decode cX4_nextValue 11 = .ok (.bipush 32, 2) := by decide +kernel
theorem dX4_nextValue_13 : decode cX4_nextValue 13 = .ok (.if_icmp .ge 21, 3) := by decide +kernel
theorem dX4_nextValue_16 : decode cX4_nextValue 16 = .ok (.aload_n 0, 1) := by decide +kernel
theorem dX4_nextValue_17 : decode cX4_nextValue 17 = .ok (.getfield 112, 3) := by decide +kernel
theorem dX4_nextValue_20 : decode cX4_nextValue 20 = .ok (.iload_n 1, 1) := by decide +kernel
theorem dX4_nextValue_21 : decode cX4_nextValue 21 = .ok (.aload_n 0, 1) := by decide +kernel
theorem dX4_nextValue_22 : decode cX4_nextValue 22 = .ok (.getfield 97, 3) := by decide +kernel
theorem dX4_nextValue_25 : decode cX4_nextValue 25 = .ok (.iload_n 1, 1) := by decide +kernel
theorem dX4_nextValue_26 : decode cX4_nextValue 26 = .ok (.iaload, 1) := by decide +kernel
theorem dX4_nextValue_27 : decode cX4_nextValue 27 = .ok (.iastore, 1) := by decide +kernel
theorem dX4_nextValue_28 : decode cX4_nextValue 28 = .ok (.iinc 1 1, 3) := by decide +kernel
theorem dX4_nextValue_31 : decode cX4_nextValue 31 = .ok (.goto (-21), 3) := by decide +kernel
theorem dX4_nextValue_34 : decode cX4_nextValue 34 = .ok (.return_, 1) := by decide +kernel
set_option maxRecDepth 20000 in
theorem ggX4_stir_X4_beginKeyed : GoodIn wsX4_stir wsX4_beginKeyed := goodIn_r _ [11, 12, 3, 6, 13, 14, 15, 10, 16, 17, 18, 19, 20, 21, 22, 46, 47, 48, 49, 50, 51, 52, 53, 54, 55, 56, 57, 58, 59, 60, 61, 62, 63, 64, 65, 66, 67] (by decide +kernel) (by decide +kernel)
set_option maxRecDepth 20000 in
theorem gX4_stir_X4_beginKeyed : GoodIn wsX4_stir (wsV RX4 148 RX4 yX4_beginKeyed wsX4_beginKeyed) := goodIn_app (goodIn_of _ (by decide +kernel)) ggX4_stir_X4_beginKeyed
set_option maxRecDepth 20000 in
theorem ggX4_stir_X4_put : GoodIn wsX4_stir wsX4_put := goodIn_r _ [20, 21, 22, 46, 47, 48, 49, 50, 51, 52, 53, 54, 55, 56, 57, 58, 59, 60, 61, 62, 63, 64, 65, 66, 67] (by decide +kernel) (by decide +kernel)
set_option maxRecDepth 20000 in
theorem gX4_stir_X4_put : GoodIn wsX4_stir (wsV RX4 135 RX4 yX4_put wsX4_put) := goodIn_app (goodIn_of _ (by decide +kernel)) ggX4_stir_X4_put
set_option maxRecDepth 20000 in
theorem ggX4_stir_X4_finishKeyed : GoodIn wsX4_stir wsX4_finishKeyed := goodIn_r _ [26, 4, 27, 28, 29, 10, 30, 22, 31, 32, 17, 18, 19, 20, 21, 33, 34, 35, 36, 37, 38, 39, 40, 41, 13, 14, 15, 16, 12, 46, 47, 48, 49, 50, 51, 52, 53, 54, 55, 56, 57, 58, 59, 60, 61, 62, 63, 64, 65, 66, 67] (by decide +kernel) (by decide +kernel)
set_option maxRecDepth 20000 in
theorem gX4_stir_X4_finishKeyed : GoodIn wsX4_stir (wsV RX4 151 RX4 yX4_finishKeyed wsX4_finishKeyed) := goodIn_app (goodIn_of _ (by decide +kernel)) ggX4_stir_X4_finishKeyed
set_option maxRecDepth 20000 in
theorem ggX4_stir_X4_nextValue : GoodIn wsX4_stir wsX4_nextValue := goodIn_r _ [45, 6, 4, 7, 8, 9, 10, 11, 12, 3, 13, 14, 15, 16, 17, 18, 19, 20, 21, 22, 23, 24, 25, 26, 27, 28, 29, 30, 31, 32, 33, 34, 35, 36, 37, 38, 39, 40, 41, 46, 47, 48, 49, 50, 51, 52, 53, 54, 55, 56, 57, 58, 59, 60, 61, 62, 63, 64, 65, 66, 67] (by decide +kernel) (by decide +kernel)
set_option maxRecDepth 20000 in
theorem gX4_stir_X4_nextValue : GoodIn wsX4_stir (wsV RX4 157 RX4 yX4_nextValue wsX4_nextValue) := goodIn_app (goodIn_of _ (by decide +kernel)) ggX4_stir_X4_nextValue
theorem dX4_stir_0 : decode cX4_stir 0 = .ok (.iconst 0, 1) := by decide +kernel
theorem dX4_stir_1 : decode cX4_stir 1 = .ok (.istore_n 1, 1) := by decide +kernel
theorem dX4_stir_2 : decode cX4_stir 2 = .ok (.iload_n 1, 1) := by decide +kernel
theorem dX4_stir_3 : decode cX4_stir 3 = .ok (.aload_n 0, 1) := by decide +kernel
theorem dX4_stir_4 : decode cX4_stir 4 = .ok (.getfield 154, 3) := by decide +kernel
theorem dX4_stir_7 : decode cX4_stir 7 = .ok (.ifCond .le 7, 3) := by decide +kernel
theorem dX4_stir_10 : decode cX4_stir 10 = .ok (.iconst 2, 1) := by decide +kernel
theorem dX4_stir_11 : decode cX4_stir 11 = .ok (.goto 4, 3) := by decide +kernel
theorem dX4_stir_14 : decode cX4_stir 14 = .ok (.iconst 1, 1) := by decide +kernel
theorem dX4_stir_15 : decode cX4_stir 15 = .ok (.if_icmp .ge 78, 3) := by decide +kernel
theorem dX4_stir_18 : decode cX4_stir 18 = .ok (.aload_n 0, 1) := by decide +kernel
theorem dX4_stir_19 : decode cX4_stir 19 = .ok (.invokevirtual 148, 3) := by decide +kernel
theorem dX4_stir_22 : decode cX4_stir 22 = .ok (.aload_n 0, 1) := by decide +kernel
theorem dX4_stir_23 : decode cX4_stir 23 = .ok (.iload_n 1, 1) := by decide +kernel
theorem dX4_stir_24 : decode cX4_stir 24 = .ok (.invokevirtual 135, 3) := by decide +kernel
theorem dX4_stir_27 : decode cX4_stir 27 = .ok (.iconst 0, 1) := by decide +kernel
theorem dX4_stir_28 : decode cX4_stir 28 = .ok (.istore_n 2, 1) := by decide +kernel
theorem dX4_stir_29 : decode cX4_stir 29 = .ok (.iload_n 2, 1) := by decide +kernel
theorem dX4_stir_30 : decode cX4_stir 30 = .ok (.aload_n 0, 1) := by decide +kernel
theorem dX4_stir_31 : decode cX4_stir 31 = .ok (.getfield 154, 3) := by decide +kernel
theorem dX4_stir_34 : decode cX4_stir 34 = .ok (.if_icmp .ge 19, 3) := by decide +kernel
theorem dX4_stir_37 : decode cX4_stir 37 = .ok (.aload_n 0, 1) := by decide +kernel
theorem dX4_stir_38 : decode cX4_stir 38 = .ok (.aload_n 0, 1) := by decide +kernel
theorem dX4_stir_39 : decode cX4_stir 39 = .ok (.getfield 103, 3) := by decide +kernel
theorem dX4_stir_42 : decode cX4_stir 42 = .ok (.iload_n 2, 1) := by decide +kernel
theorem dX4_stir_43 : decode cX4_stir 43 = .ok (.iaload, 1) := by decide +kernel
theorem dX4_stir_44 : decode cX4_stir 44 = .ok (.invokevirtual 135, 3) := by decide +kernel
theorem dX4_stir_47 : decode cX4_stir 47 = .ok (.iinc 2 1, 3) := by decide +kernel
theorem dX4_stir_50 : decode cX4_stir 50 = .ok (.goto (-21), 3) := by decide +kernel
theorem dX4_stir_53 : decode cX4_stir 53 = .ok (.aload_n 0, 1) := by decide +kernel
theorem dX4_stir_54 : decode cX4_stir 54 = .ok (.invokevirtual 151, 3) := by decide +kernel
theorem dX4_stir_57 : decode cX4_stir 57 = .ok (.iconst 0, 1) := by decide +kernel
theorem dX4_stir_58 : decode cX4_stir 58 = .ok (.istore_n 2, 1) := by decide +kernel
theorem dX4_stir_59 : decode cX4_stir 59 = .ok (.iload_n 2, 1) := by decide +kernel
theorem dX4_stir_60 : decode cX4_stir 60 = .ok (.bipush 32, 2) := by decide +kernel
theorem dX4_stir_62 : decode cX4_stir 62 = .ok (.if_icmp .ge 21, 3) := by decide +kernel
theorem dX4_stir_65 : decode cX4_stir 65 = .ok (.aload_n 0, 1) := by decide +kernel
theorem dX4_stir_66 : decode cX4_stir 66 = .ok (.getfield 109, 3) := by decide +kernel
theorem dX4_stir_69 : decode cX4_stir 69 = .ok (.iload_n 2, 1) := by decide +kernel
theorem dX4_stir_70 : decode cX4_stir 70 = .ok (.aload_n 0, 1) := by decide +kernel
theorem dX4_stir_71 : decode cX4_stir 71 = .ok (.getfield 97, 3) := by decide +kernel
theorem dX4_stir_74 : decode cX4_stir 74 = .ok (.iload_n 2, 1) := by decide +kernel
theorem dX4_stir_75 : decode cX4_stir 75 = .ok (.iaload, 1) := by decide +kernel
theorem dX4_stir_76 : decode cX4_stir 76 = .ok (.iastore, 1) := by decide +kernel
theorem dX4_stir_77 : decode cX4_stir 77 = .ok (.iinc 2 1, 3) := by decide +kernel
theorem dX4_stir_80 : decode cX4_stir 80 = .ok (.goto (-21), 3) := by decide +kernel
theorem dX4_stir_83 : decode cX4_stir 83 = .ok (.aload_n 0, 1) := by decide +kernel
theorem dX4_stir_84 : decode cX4_stir 84 = .ok (.invokevirtual 157, 3) := by decide +kernel
theorem dX4_stir_87 : decode cX4_stir 87 = .ok (.iinc 1 1, 3) := by decide +kernel
theorem dX4_stir_90 : decode cX4_stir 90 = .ok (.goto (-88), 3) := by decide +kernel
theorem dX4_stir_93 : decode cX4_stir 93 = .ok (.iconst 0, 1) := by decide +kernel
theorem dX4_stir_94 : decode cX4_stir 94 = .ok (.istore_n 1, 1) := by decide +kernel
theorem dX4_stir_95 : decode cX4_stir 95 = .ok (.iload_n 1, 1) := by decide +kernel
theorem dX4_stir_96 : decode cX4_stir 96 = .ok (.bipush 32, 2) := by decide +kernel
theorem dX4_stir_98 : decode cX4_stir 98 = .ok (.if_icmp .ge 21, 3) := by decide +kernel
theorem dX4_stir_101 : decode cX4_stir 101 = .ok (.aload_n 0, 1) := by decide +kernel
theorem dX4_stir_102 : decode cX4_stir 102 = .ok (.getfield 115, 3) := by decide +kernel
theorem dX4_stir_105 : decode cX4_stir 105 = .ok (.iload_n 1, 1) := by decide +kernel
theorem dX4_stir_106 : decode cX4_stir 106 = .ok (.aload_n 0, 1) := by decide +kernel
theorem dX4_stir_107 : decode cX4_stir 107 = .ok (.getfield 112, 3) := by decide +kernel
theorem dX4_stir_110 : decode cX4_stir 110 = .ok (.iload_n 1, 1) := by decide +kernel
theorem dX4_stir_111 : decode cX4_stir 111 = .ok (.iaload, 1) := by decide +kernel
theorem dX4_stir_112 : decode cX4_stir 112 = .ok (.iastore, 1) := by decide +kernel
theorem dX4_stir_113 : decode cX4_stir 113 = .ok (.iinc 1 1, 3) := by decide +kernel
theorem dX4_stir_116 : decode cX4_stir 116 = .ok (.goto (-21), 3) := by decide +kernel
theorem dX4_stir_119 : decode cX4_stir 119 = .ok (.return_, 1) := by decide +kernel
theorem dX4_feed_0 : decode cX4_feed 0 = .ok (.iload_n 3, 1) := by decide +kernel
theorem dX4_feed_1 : decode cX4_feed 1 = .ok (.iconst 1, 1) := by decide +kernel
theorem dX4_feed_2 : decode cX4_feed 2 = .ok (.if_icmp .lt 21, 3) := by decide +kernel
theorem dX4_feed_5 : decode cX4_feed 5 = .ok (.iload_n 3, 1) := by decide +kernel
theorem dX4_feed_6 : decode cX4_feed 6 = .ok (.bipush 8, 2) := by decide +kernel
theorem dX4_feed_8 : decode cX4_feed 8 = .ok (.if_icmp .gt 15, 3) := by decide +kernel
theorem dX4_feed_11 : decode cX4_feed 11 = .ok (.aload_n 0, 1) := by decide +kernel
theorem dX4_feed_12 : decode cX4_feed 12 = .ok (.getfield 154, 3) := by decide +kernel
theorem dX4_feed_15 : decode cX4_feed 15 = .ok (.iload_n 3, 1) := by decide +kernel
theorem dX4_feed_16 : decode cX4_feed 16 = .ok (.iadd, 1) := by decide +kernel
theorem dX4_feed_17 : decode cX4_feed 17 = .ok (.sipush 300, 3) := by decide +kernel
theorem dX4_feed_20 : decode cX4_feed 20 = .ok (.if_icmp .le 5, 3) := by decide +kernel
theorem dX4_feed_23 : decode cX4_feed 23 = .ok (.iconst (-1), 1) := by decide +kernel
theorem dX4_feed_24 : decode cX4_feed 24 = .ok (.ireturn, 1) := by decide +kernel
theorem dX4_feed_25 : decode cX4_feed 25 = .ok (.iload_n 3, 1) := by decide +kernel
theorem dX4_feed_26 : decode cX4_feed 26 = .ok (.iconst 1, 1) := by decide +kernel
theorem dX4_feed_27 : decode cX4_feed 27 = .ok (.isub, 1) := by decide +kernel
theorem dX4_feed_28 : decode cX4_feed 28 = .ok (.istore 4, 2) := by decide +kernel
theorem dX4_feed_30 : decode cX4_feed 30 = .ok (.iload 4, 2) := by decide +kernel
theorem dX4_feed_32 : decode cX4_feed 32 = .ok (.ifCond .lt 40, 3) := by decide +kernel
theorem dX4_feed_35 : decode cX4_feed 35 = .ok (.aload_n 0, 1) := by decide +kernel
theorem dX4_feed_36 : decode cX4_feed 36 = .ok (.getfield 103, 3) := by decide +kernel
theorem dX4_feed_39 : decode cX4_feed 39 = .ok (.aload_n 0, 1) := by decide +kernel
theorem dX4_feed_40 : decode cX4_feed 40 = .ok (.getfield 154, 3) := by decide +kernel
theorem dX4_feed_43 : decode cX4_feed 43 = .ok (.lload_n 1, 1) := by decide +kernel
theorem dX4_feed_44 : decode cX4_feed 44 = .ok (.bipush 8, 2) := by decide +kernel
theorem dX4_feed_46 : decode cX4_feed 46 = .ok (.iload 4, 2) := by decide +kernel
theorem dX4_feed_48 : decode cX4_feed 48 = .ok (.imul, 1) := by decide +kernel
theorem dX4_feed_49 : decode cX4_feed 49 = .ok (.lshr, 1) := by decide +kernel
theorem dX4_feed_50 : decode cX4_feed 50 = .ok (.ldc2_w 160, 3) := by decide +kernel
theorem dX4_feed_53 : decode cX4_feed 53 = .ok (.land, 1) := by decide +kernel
theorem dX4_feed_54 : decode cX4_feed 54 = .ok (.l2i, 1) := by decide +kernel
theorem dX4_feed_55 : decode cX4_feed 55 = .ok (.iastore, 1) := by decide +kernel
theorem dX4_feed_56 : decode cX4_feed 56 = .ok (.aload_n 0, 1) := by decide +kernel
theorem dX4_feed_57 : decode cX4_feed 57 = .ok (.dup, 1) := by decide +kernel
theorem dX4_feed_58 : decode cX4_feed 58 = .ok (.getfield 154, 3) := by decide +kernel
theorem dX4_feed_61 : decode cX4_feed 61 = .ok (.iconst 1, 1) := by decide +kernel
theorem dX4_feed_62 : decode cX4_feed 62 = .ok (.iadd, 1) := by decide +kernel
theorem dX4_feed_63 : decode cX4_feed 63 = .ok (.putfield 154, 3) := by decide +kernel
theorem dX4_feed_66 : decode cX4_feed 66 = .ok (.iinc 4 (-1), 3) := by decide +kernel
theorem dX4_feed_69 : decode cX4_feed 69 = .ok (.goto (-39), 3) := by decide +kernel
theorem dX4_feed_72 : decode cX4_feed 72 = .ok (.aload_n 0, 1) := by decide +kernel
theorem dX4_feed_73 : decode cX4_feed 73 = .ok (.getfield 154, 3) := by decide +kernel
theorem dX4_feed_76 : decode cX4_feed 76 = .ok (.ireturn, 1) := by decide +kernel
theorem dX4_clear_0 : decode cX4_clear 0 = .ok (.aload_n 0, 1) := by decide +kernel
theorem dX4_clear_1 : decode cX4_clear 1 = .ok (.getfield 154, 3) := by decide +kernel
theorem dX4_clear_4 : decode cX4_clear 4 = .ok (.istore_n 1, 1) := by decide +kernel
theorem dX4_clear_5 : decode cX4_clear 5 = .ok (.aload_n 0, 1) := by decide +kernel
theorem dX4_clear_6 : decode cX4_clear 6 = .ok (.iconst 0, 1) := by decide +kernel
theorem dX4_clear_7 : decode cX4_clear 7 = .ok (.putfield 154, 3) := by decide +kernel
theorem dX4_clear_10 : decode cX4_clear 10 = .ok (.iload_n 1, 1) := by decide +kernel
theorem dX4_clear_11 : decode cX4_clear 11 = .ok (.ireturn, 1) := by decide +kernel
set_option maxRecDepth 20000 in
theorem ggX4_seed_X4_stir : GoodIn wsX4_seed wsX4_stir := goodIn_r _ [10, 1, 11, 2, 12, 13, 3, 14, 15, 16, 9, 17, 18, 19, 20, 21, 22, 23, 24, 25, 26, 27, 28, 29, 30, 31, 32, 33, 34, 35, 36, 37, 38, 39, 40, 41, 42, 43, 44, 45, 46, 47, 48, 49, 50, 51, 52, 53, 54, 55, 56, 57, 58, 59, 60, 61, 62, 63, 64, 65, 66, 67, 68, 69, 70, 71, 72, 73] (by decide +kernel) (by decide +kernel)
set_option maxRecDepth 20000 in
theorem gX4_seed_X4_stir : GoodIn wsX4_seed (wsV RX4 162 RX4 yX4_stir wsX4_stir) := goodIn_app (goodIn_of _ (by decide +kernel)) ggX4_seed_X4_stir
theorem dX4_seed_0 : decode cX4_seed 0 = .ok (.aload_n 0, 1) := by decide +kernel
theorem dX4_seed_1 : decode cX4_seed 1 = .ok (.getfield 154, 3) := by decide +kernel
theorem dX4_seed_4 : decode cX4_seed 4 = .ok (.ifCond .ne 5, 3) := by decide +kernel
theorem dX4_seed_7 : decode cX4_seed 7 = .ok (.iconst 0, 1) := by decide +kernel
theorem dX4_seed_8 : decode cX4_seed 8 = .ok (.ireturn, 1) := by decide +kernel
theorem dX4_seed_9 : decode cX4_seed 9 = .ok (.iconst 0, 1) := by decide +kernel
theorem dX4_seed_10 : decode cX4_seed 10 = .ok (.istore_n 1, 1) := by decide +kernel
theorem dX4_seed_11 : decode cX4_seed 11 = .ok (.iload_n 1, 1) := by decide +kernel
theorem dX4_seed_12 : decode cX4_seed 12 = .ok (.bipush 32, 2) := by decide +kernel
theorem dX4_seed_14 : decode cX4_seed 14 = .ok (.if_icmp .ge 23, 3) := by decide +kernel
theorem dX4_seed_17 : decode cX4_seed 17 = .ok (.aload_n 0, 1) := by decide +kernel
theorem dX4_seed_18 : decode cX4_seed 18 = .ok (.getfield 109, 3) := by decide +kernel
theorem dX4_seed_21 : decode cX4_seed 21 = .ok (.iload_n 1, 1) := by decide +kernel
theorem dX4_seed_22 : decode cX4_seed 22 = .ok (.iconst 0, 1) := by decide +kernel
theorem dX4_seed_23 : decode cX4_seed 23 = .ok (.iastore, 1) := by decide +kernel
theorem dX4_seed_24 : decode cX4_seed 24 = .ok (.aload_n 0, 1) := by decide +kernel
theorem dX4_seed_25 : decode cX4_seed 25 = .ok (.getfield 112, 3) := by decide +kernel
theorem dX4_seed_28 : decode cX4_seed 28 = .ok (.iload_n 1, 1) := by decide +kernel
theorem dX4_seed_29 : decode cX4_seed 29 = .ok (.iconst 1, 1) := by decide +kernel
theorem dX4_seed_30 : decode cX4_seed 30 = .ok (.iastore, 1) := by decide +kernel
theorem dX4_seed_31 : decode cX4_seed 31 = .ok (.iinc 1 1, 3) := by decide +kernel
theorem dX4_seed_34 : decode cX4_seed 34 = .ok (.goto (-23), 3) := by decide +kernel
theorem dX4_seed_37 : decode cX4_seed 37 = .ok (.aload_n 0, 1) := by decide +kernel
theorem dX4_seed_38 : decode cX4_seed 38 = .ok (.invokevirtual 162, 3) := by decide +kernel
theorem dX4_seed_41 : decode cX4_seed 41 = .ok (.aload_n 0, 1) := by decide +kernel
theorem dX4_seed_42 : decode cX4_seed 42 = .ok (.iconst 1, 1) := by decide +kernel
theorem dX4_seed_43 : decode cX4_seed 43 = .ok (.putfield 165, 3) := by decide +kernel
theorem dX4_seed_46 : decode cX4_seed 46 = .ok (.aload_n 0, 1) := by decide +kernel
theorem dX4_seed_47 : decode cX4_seed 47 = .ok (.iconst 1, 1) := by decide +kernel
theorem dX4_seed_48 : decode cX4_seed 48 = .ok (.putfield 169, 3) := by decide +kernel
theorem dX4_seed_51 : decode cX4_seed 51 = .ok (.aload_n 0, 1) := by decide +kernel
theorem dX4_seed_52 : decode cX4_seed 52 = .ok (.iconst 0, 1) := by decide +kernel
theorem dX4_seed_53 : decode cX4_seed 53 = .ok (.putfield 154, 3) := by decide +kernel
theorem dX4_seed_56 : decode cX4_seed 56 = .ok (.iconst 1, 1) := by decide +kernel
theorem dX4_seed_57 : decode cX4_seed 57 = .ok (.ireturn, 1) := by decide +kernel
set_option maxRecDepth 20000 in
theorem ggX4_reseed_X4_stir : GoodIn wsX4_reseed wsX4_stir := goodIn_r _ [8, 1, 9, 10, 11, 12, 13, 14, 15, 16, 7, 17, 18, 19, 20, 21, 22, 23, 24, 25, 26, 27, 28, 29, 30, 31, 32, 33, 34, 35, 36, 37, 38, 39, 40, 41, 42, 43, 44, 45, 46, 47, 48, 49, 50, 51, 52, 53, 54, 55, 56, 57, 58, 59, 60, 61, 62, 63, 64, 65, 66, 67, 68, 69, 70, 71, 72, 73] (by decide +kernel) (by decide +kernel)
set_option maxRecDepth 20000 in
theorem gX4_reseed_X4_stir : GoodIn wsX4_reseed (wsV RX4 162 RX4 yX4_stir wsX4_stir) := goodIn_app (goodIn_of _ (by decide +kernel)) ggX4_reseed_X4_stir
theorem dX4_reseed_0 : decode cX4_reseed 0 = .ok (.aload_n 0, 1) := by decide +kernel
theorem dX4_reseed_1 : decode cX4_reseed 1 = .ok (.getfield 154, 3) := by decide +kernel
theorem dX4_reseed_4 : decode cX4_reseed 4 = .ok (.ifCond .eq 10, 3) := by decide +kernel
theorem dX4_reseed_7 : decode cX4_reseed 7 = .ok (.aload_n 0, 1) := by decide +kernel
theorem dX4_reseed_8 : decode cX4_reseed 8 = .ok (.getfield 165, 3) := by decide +kernel
theorem dX4_reseed_11 : decode cX4_reseed 11 = .ok (.ifCond .ne 5, 3) := by decide +kernel
theorem dX4_reseed_14 : decode cX4_reseed 14 = .ok (.iconst 0, 1) := by decide +kernel
theorem dX4_reseed_15 : decode cX4_reseed 15 = .ok (.ireturn, 1) := by decide +kernel
theorem dX4_reseed_16 : decode cX4_reseed 16 = .ok (.aload_n 0, 1) := by decide +kernel
theorem dX4_reseed_17 : decode cX4_reseed 17 = .ok (.invokevirtual 162, 3) := by decide +kernel
theorem dX4_reseed_20 : decode cX4_reseed 20 = .ok (.aload_n 0, 1) := by decide +kernel
theorem dX4_reseed_21 : decode cX4_reseed 21 = .ok (.iconst 1, 1) := by decide +kernel
theorem dX4_reseed_22 : decode cX4_reseed 22 = .ok (.putfield 169, 3) := by decide +kernel
theorem dX4_reseed_25 : decode cX4_reseed 25 = .ok (.aload_n 0, 1) := by decide +kernel
theorem dX4_reseed_26 : decode cX4_reseed 26 = .ok (.iconst 0, 1) := by decide +kernel
theorem dX4_reseed_27 : decode cX4_reseed 27 = .ok (.putfield 154, 3) := by decide +kernel
theorem dX4_reseed_30 : decode cX4_reseed 30 = .ok (.iconst 1, 1) := by decide +kernel
theorem dX4_reseed_31 : decode cX4_reseed 31 = .ok (.ireturn, 1) := by decide +kernel
set_option maxRecDepth 20000 in
theorem ggX4_draw_X4_stir : GoodIn wsX4_draw wsX4_stir := goodIn_r _ [13, 4, 14, 15, 16, 17, 6, 18, 19, 20, 12, 21, 22, 23, 24, 25, 26, 27, 28, 29, 30, 31, 32, 33, 34, 35, 36, 37, 38, 39, 40, 41, 42, 43, 44, 45, 46, 47, 48, 49, 50, 51, 52, 53, 54, 55, 56, 57, 58, 59, 60, 61, 62, 63, 64, 65, 66, 67, 68, 69, 70, 71, 72, 73, 74, 75, 76, 77] (by decide +kernel) (by decide +kernel)
set_option maxRecDepth 20000 in
theorem gX4_draw_X4_stir : GoodIn wsX4_draw (wsV RX4 162 RX4 yX4_stir wsX4_stir) := goodIn_app (goodIn_of _ (by decide +kernel)) ggX4_draw_X4_stir
set_option maxRecDepth 20000 in
theorem ggX4_draw_X4_nextValue : GoodIn wsX4_draw wsX4_nextValue := goodIn_r _ [55, 6, 16, 18, 19, 20, 12, 21, 22, 15, 23, 24, 25, 26, 27, 28, 29, 30, 31, 32, 33, 34, 35, 36, 37, 38, 39, 40, 41, 42, 43, 44, 45, 46, 47, 48, 49, 50, 51, 56, 57, 58, 59, 60, 61, 62, 63, 64, 65, 66, 67, 68, 69, 70, 71, 72, 73, 74, 75, 76, 77] (by decide +kernel) (by decide +kernel)
set_option maxRecDepth 20000 in
theorem gX4_draw_X4_nextValue : GoodIn wsX4_draw (wsV RX4 157 RX4 yX4_nextValue wsX4_nextValue) := goodIn_app (goodIn_of _ (by decide +kernel)) ggX4_draw_X4_nextValue
theorem dX4_draw_0 : decode cX4_draw 0 = .ok (.aload_n 0, 1) := by decide +kernel
theorem dX4_draw_1 : decode cX4_draw 1 = .ok (.getfield 165, 3) := by decide +kernel
theorem dX4_draw_4 : decode cX4_draw 4 = .ok (.ifCond .ne 5, 3) := by decide +kernel
theorem dX4_draw_7 : decode cX4_draw 7 = .ok (.iconst 1, 1) := by decide +kernel
theorem dX4_draw_8 : decode cX4_draw 8 = .ok (.ireturn, 1) := by decide +kernel
theorem dX4_draw_9 : decode cX4_draw 9 = .ok (.iload_n 1, 1) := by decide +kernel
theorem dX4_draw_10 : decode cX4_draw 10 = .ok (.iconst 1, 1) := by decide +kernel
theorem dX4_draw_11 : decode cX4_draw 11 = .ok (.if_icmp .lt 10, 3) := by decide +kernel
theorem dX4_draw_14 : decode cX4_draw 14 = .ok (.iload_n 1, 1) := by decide +kernel
theorem dX4_draw_15 : decode cX4_draw 15 = .ok (.sipush 400, 3) := by decide +kernel
theorem dX4_draw_18 : decode cX4_draw 18 = .ok (.if_icmp .le 5, 3) := by decide +kernel
theorem dX4_draw_21 : decode cX4_draw 21 = .ok (.iconst 2, 1) := by decide +kernel
theorem dX4_draw_22 : decode cX4_draw 22 = .ok (.ireturn, 1) := by decide +kernel
theorem dX4_draw_23 : decode cX4_draw 23 = .ok (.aload_n 0, 1) := by decide +kernel
theorem dX4_draw_24 : decode cX4_draw 24 = .ok (.getfield 169, 3) := by decide +kernel
theorem dX4_draw_27 : decode cX4_draw 27 = .ok (.aload_n 0, 1) := by decide +kernel
theorem dX4_draw_28 : decode cX4_draw 28 = .ok (.getfield 118, 3) := by decide +kernel
theorem dX4_draw_31 : decode cX4_draw 31 = .ok (.if_icmp .le 5, 3) := by decide +kernel
theorem dX4_draw_34 : decode cX4_draw 34 = .ok (.iconst 3, 1) := by decide +kernel
theorem dX4_draw_35 : decode cX4_draw 35 = .ok (.ireturn, 1) := by decide +kernel
theorem dX4_draw_36 : decode cX4_draw 36 = .ok (.aload_n 0, 1) := by decide +kernel
theorem dX4_draw_37 : decode cX4_draw 37 = .ok (.getfield 154, 3) := by decide +kernel
theorem dX4_draw_40 : decode cX4_draw 40 = .ok (.ifCond .le 7, 3) := by decide +kernel
theorem dX4_draw_43 : decode cX4_draw 43 = .ok (.aload_n 0, 1) := by decide +kernel
theorem dX4_draw_44 : decode cX4_draw 44 = .ok (.invokevirtual 162, 3) := by decide +kernel
theorem dX4_draw_47 : decode cX4_draw 47 = .ok (.iconst 0, 1) := by decide +kernel
theorem dX4_draw_48 : decode cX4_draw 48 = .ok (.istore_n 2, 1) := by decide +kernel
theorem dX4_draw_49 : decode cX4_draw 49 = .ok (.iload_n 2, 1) := by decide +kernel
theorem dX4_draw_50 : decode cX4_draw 50 = .ok (.iload_n 1, 1) := by decide +kernel
theorem dX4_draw_51 : decode cX4_draw 51 = .ok (.if_icmp .ge 35, 3) := by decide +kernel
theorem dX4_draw_54 : decode cX4_draw 54 = .ok (.iload_n 2, 1) := by decide +kernel
theorem dX4_draw_55 : decode cX4_draw 55 = .ok (.bipush 32, 2) := by decide +kernel
theorem dX4_draw_57 : decode cX4_draw 57 = .ok (.irem, 1) := by decide +kernel
theorem dX4_draw_58 : decode cX4_draw 58 = .ok (.ifCond .ne 7, 3) := by decide +kernel
theorem dX4_draw_61 : decode cX4_draw 61 = .ok (.aload_n 0, 1) := by decide +kernel
theorem dX4_draw_62 : decode cX4_draw 62 = .ok (.invokevirtual 157, 3) := by decide +kernel
theorem dX4_draw_65 : decode cX4_draw 65 = .ok (.aload_n 0, 1) := by decide +kernel
theorem dX4_draw_66 : decode cX4_draw 66 = .ok (.getfield 122, 3) := by decide +kernel
theorem dX4_draw_69 : decode cX4_draw 69 = .ok (.iload_n 2, 1) := by decide +kernel
theorem dX4_draw_70 : decode cX4_draw 70 = .ok (.aload_n 0, 1) := by decide +kernel
theorem dX4_draw_71 : decode cX4_draw 71 = .ok (.getfield 112, 3) := by decide +kernel
theorem dX4_draw_74 : decode cX4_draw 74 = .ok (.iload_n 2, 1) := by decide +kernel
theorem dX4_draw_75 : decode cX4_draw 75 = .ok (.bipush 32, 2) := by decide +kernel
theorem dX4_draw_77 : decode cX4_draw 77 = .ok (.irem, 1) := by decide +kernel
theorem dX4_draw_78 : decode cX4_draw 78 = .ok (.iaload, 1) := by decide +kernel
theorem dX4_draw_79 : decode cX4_draw 79 = .ok (.iastore, 1) := by decide +kernel
theorem dX4_draw_80 : decode cX4_draw 80 = .ok (.iinc 2 1, 3) := by decide +kernel
theorem dX4_draw_83 : decode cX4_draw 83 = .ok (.goto (-34), 3) := by decide +kernel
theorem dX4_draw_86 : decode cX4_draw 86 = .ok (.aload_n 0, 1) := by decide +kernel
theorem dX4_draw_87 : decode cX4_draw 87 = .ok (.iload_n 1, 1) := by decide +kernel
theorem dX4_draw_88 : decode cX4_draw 88 = .ok (.putfield 172, 3) := by decide +kernel
theorem dX4_draw_91 : decode cX4_draw 91 = .ok (.aload_n 0, 1) := by decide +kernel
theorem dX4_draw_92 : decode cX4_draw 92 = .ok (.invokevirtual 162, 3) := by decide +kernel
theorem dX4_draw_95 : decode cX4_draw 95 = .ok (.aload_n 0, 1) := by decide +kernel
theorem dX4_draw_96 : decode cX4_draw 96 = .ok (.dup, 1) := by decide +kernel
theorem dX4_draw_97 : decode cX4_draw 97 = .ok (.getfield 169, 3) := by decide +kernel
theorem dX4_draw_100 : decode cX4_draw 100 = .ok (.iconst 1, 1) := by decide +kernel
theorem dX4_draw_101 : decode cX4_draw 101 = .ok (.iadd, 1) := by decide +kernel
theorem dX4_draw_102 : decode cX4_draw 102 = .ok (.putfield 169, 3) := by decide +kernel
theorem dX4_draw_105 : decode cX4_draw 105 = .ok (.aload_n 0, 1) := by decide +kernel
theorem dX4_draw_106 : decode cX4_draw 106 = .ok (.dup, 1) := by decide +kernel
theorem dX4_draw_107 : decode cX4_draw 107 = .ok (.getfield 175, 3) := by decide +kernel
theorem dX4_draw_110 : decode cX4_draw 110 = .ok (.iconst 1, 1) := by decide +kernel
theorem dX4_draw_111 : decode cX4_draw 111 = .ok (.iadd, 1) := by decide +kernel
theorem dX4_draw_112 : decode cX4_draw 112 = .ok (.putfield 175, 3) := by decide +kernel
theorem dX4_draw_115 : decode cX4_draw 115 = .ok (.aload_n 0, 1) := by decide +kernel
theorem dX4_draw_116 : decode cX4_draw 116 = .ok (.iconst 0, 1) := by decide +kernel
theorem dX4_draw_117 : decode cX4_draw 117 = .ok (.putfield 154, 3) := by decide +kernel
theorem dX4_draw_120 : decode cX4_draw 120 = .ok (.iconst 0, 1) := by decide +kernel
theorem dX4_draw_121 : decode cX4_draw 121 = .ok (.ireturn, 1) := by decide +kernel
theorem dX4_interval_0 : decode cX4_interval 0 = .ok (.iload_n 1, 1) := by decide +kernel
theorem dX4_interval_1 : decode cX4_interval 1 = .ok (.iconst 1, 1) := by decide +kernel
theorem dX4_interval_2 : decode cX4_interval 2 = .ok (.if_icmp .lt 10, 3) := by decide +kernel
theorem dX4_interval_5 : decode cX4_interval 5 = .ok (.iload_n 1, 1) := by decide +kernel
theorem dX4_interval_6 : decode cX4_interval 6 = .ok (.sipush 1000, 3) := by decide +kernel
theorem dX4_interval_9 : decode cX4_interval 9 = .ok (.if_icmp .le 5, 3) := by decide +kernel
theorem dX4_interval_12 : decode cX4_interval 12 = .ok (.iconst 0, 1) := by decide +kernel
theorem dX4_interval_13 : decode cX4_interval 13 = .ok (.ireturn, 1) := by decide +kernel
theorem dX4_interval_14 : decode cX4_interval 14 = .ok (.aload_n 0, 1) := by decide +kernel
theorem dX4_interval_15 : decode cX4_interval 15 = .ok (.iload_n 1, 1) := by decide +kernel
theorem dX4_interval_16 : decode cX4_interval 16 = .ok (.putfield 118, 3) := by decide +kernel
theorem dX4_interval_19 : decode cX4_interval 19 = .ok (.iconst 1, 1) := by decide +kernel
theorem dX4_interval_20 : decode cX4_interval 20 = .ok (.ireturn, 1) := by decide +kernel
theorem dX4_forget_0 : decode cX4_forget 0 = .ok (.aload_n 0, 1) := by decide +kernel
theorem dX4_forget_1 : decode cX4_forget 1 = .ok (.getfield 165, 3) := by decide +kernel
theorem dX4_forget_4 : decode cX4_forget 4 = .ok (.istore_n 1, 1) := by decide +kernel
theorem dX4_forget_5 : decode cX4_forget 5 = .ok (.aload_n 0, 1) := by decide +kernel
theorem dX4_forget_6 : decode cX4_forget 6 = .ok (.iconst 0, 1) := by decide +kernel
theorem dX4_forget_7 : decode cX4_forget 7 = .ok (.putfield 165, 3) := by decide +kernel
theorem dX4_forget_10 : decode cX4_forget 10 = .ok (.aload_n 0, 1) := by decide +kernel
theorem dX4_forget_11 : decode cX4_forget 11 = .ok (.iconst 0, 1) := by decide +kernel
theorem dX4_forget_12 : decode cX4_forget 12 = .ok (.putfield 169, 3) := by decide +kernel
theorem dX4_forget_15 : decode cX4_forget 15 = .ok (.aload_n 0, 1) := by decide +kernel
theorem dX4_forget_16 : decode cX4_forget 16 = .ok (.iload_n 1, 1) := by decide +kernel
theorem dX4_forget_17 : decode cX4_forget 17 = .ok (.ifCond .eq 7, 3) := by decide +kernel
theorem dX4_forget_20 : decode cX4_forget 20 = .ok (.iconst 0, 1) := by decide +kernel
theorem dX4_forget_21 : decode cX4_forget 21 = .ok (.goto 7, 3) := by decide +kernel
theorem dX4_forget_24 : decode cX4_forget 24 = .ok (.aload_n 0, 1) := by decide +kernel
theorem dX4_forget_25 : decode cX4_forget 25 = .ok (.getfield 172, 3) := by decide +kernel
theorem dX4_forget_28 : decode cX4_forget 28 = .ok (.putfield 172, 3) := by decide +kernel
theorem dX4_forget_31 : decode cX4_forget 31 = .ok (.iload_n 1, 1) := by decide +kernel
theorem dX4_forget_32 : decode cX4_forget 32 = .ok (.ifCond .eq 7, 3) := by decide +kernel
theorem dX4_forget_35 : decode cX4_forget 35 = .ok (.iconst 1, 1) := by decide +kernel
theorem dX4_forget_36 : decode cX4_forget 36 = .ok (.goto 4, 3) := by decide +kernel
theorem dX4_forget_39 : decode cX4_forget 39 = .ok (.iconst 0, 1) := by decide +kernel
theorem dX4_forget_40 : decode cX4_forget 40 = .ok (.ireturn, 1) := by decide +kernel
theorem dX4_own_0 : decode cX4_own 0 = .ok (.iconst 0, 1) := by decide +kernel
theorem dX4_own_1 : decode cX4_own 1 = .ok (.istore_n 1, 1) := by decide +kernel
theorem dX4_own_2 : decode cX4_own 2 = .ok (.iload_n 1, 1) := by decide +kernel
theorem dX4_own_3 : decode cX4_own 3 = .ok (.aload_n 0, 1) := by decide +kernel
theorem dX4_own_4 : decode cX4_own 4 = .ok (.getfield 154, 3) := by decide +kernel
theorem dX4_own_7 : decode cX4_own 7 = .ok (.if_icmp .ge 21, 3) := by decide +kernel
theorem dX4_own_10 : decode cX4_own 10 = .ok (.aload_n 0, 1) := by decide +kernel
theorem dX4_own_11 : decode cX4_own 11 = .ok (.getfield 106, 3) := by decide +kernel
theorem dX4_own_14 : decode cX4_own 14 = .ok (.iload_n 1, 1) := by decide +kernel
theorem dX4_own_15 : decode cX4_own 15 = .ok (.aload_n 0, 1) := by decide +kernel
theorem dX4_own_16 : decode cX4_own 16 = .ok (.getfield 103, 3) := by decide +kernel
theorem dX4_own_19 : decode cX4_own 19 = .ok (.iload_n 1, 1) := by decide +kernel
theorem dX4_own_20 : decode cX4_own 20 = .ok (.iaload, 1) := by decide +kernel
theorem dX4_own_21 : decode cX4_own 21 = .ok (.iastore, 1) := by decide +kernel
theorem dX4_own_22 : decode cX4_own 22 = .ok (.iinc 1 1, 3) := by decide +kernel
theorem dX4_own_25 : decode cX4_own 25 = .ok (.goto (-23), 3) := by decide +kernel
theorem dX4_own_28 : decode cX4_own 28 = .ok (.aload_n 0, 1) := by decide +kernel
theorem dX4_own_29 : decode cX4_own 29 = .ok (.aload_n 0, 1) := by decide +kernel
theorem dX4_own_30 : decode cX4_own 30 = .ok (.getfield 154, 3) := by decide +kernel
theorem dX4_own_33 : decode cX4_own 33 = .ok (.putfield 178, 3) := by decide +kernel
theorem dX4_own_36 : decode cX4_own 36 = .ok (.aload_n 0, 1) := by decide +kernel
theorem dX4_own_37 : decode cX4_own 37 = .ok (.iconst 0, 1) := by decide +kernel
theorem dX4_own_38 : decode cX4_own 38 = .ok (.putfield 154, 3) := by decide +kernel
theorem dX4_own_41 : decode cX4_own 41 = .ok (.aload_n 0, 1) := by decide +kernel
theorem dX4_own_42 : decode cX4_own 42 = .ok (.getfield 178, 3) := by decide +kernel
theorem dX4_own_45 : decode cX4_own 45 = .ok (.ireturn, 1) := by decide +kernel
theorem dX4_out_0 : decode cX4_out 0 = .ok (.iload_n 1, 1) := by decide +kernel
theorem dX4_out_1 : decode cX4_out 1 = .ok (.ifCond .lt 20, 3) := by decide +kernel
theorem dX4_out_4 : decode cX4_out 4 = .ok (.iload_n 1, 1) := by decide +kernel
theorem dX4_out_5 : decode cX4_out 5 = .ok (.aload_n 0, 1) := by decide +kernel
theorem dX4_out_6 : decode cX4_out 6 = .ok (.getfield 172, 3) := by decide +kernel
theorem dX4_out_9 : decode cX4_out 9 = .ok (.if_icmp .ge 12, 3) := by decide +kernel
theorem dX4_out_12 : decode cX4_out 12 = .ok (.aload_n 0, 1) := by decide +kernel
theorem dX4_out_13 : decode cX4_out 13 = .ok (.getfield 122, 3) := by decide +kernel
theorem dX4_out_16 : decode cX4_out 16 = .ok (.iload_n 1, 1) := by decide +kernel
theorem dX4_out_17 : decode cX4_out 17 = .ok (.iaload, 1) := by decide +kernel
theorem dX4_out_18 : decode cX4_out 18 = .ok (.goto 4, 3) := by decide +kernel
theorem dX4_out_21 : decode cX4_out 21 = .ok (.iconst (-1), 1) := by decide +kernel
theorem dX4_out_22 : decode cX4_out 22 = .ok (.ireturn, 1) := by decide +kernel
theorem dX4_counter_0 : decode cX4_counter 0 = .ok (.aload_n 0, 1) := by decide +kernel
theorem dX4_counter_1 : decode cX4_counter 1 = .ok (.getfield 165, 3) := by decide +kernel
theorem dX4_counter_4 : decode cX4_counter 4 = .ok (.ifCond .eq 10, 3) := by decide +kernel
theorem dX4_counter_7 : decode cX4_counter 7 = .ok (.aload_n 0, 1) := by decide +kernel
theorem dX4_counter_8 : decode cX4_counter 8 = .ok (.getfield 169, 3) := by decide +kernel
theorem dX4_counter_11 : decode cX4_counter 11 = .ok (.goto 4, 3) := by decide +kernel
theorem dX4_counter_14 : decode cX4_counter 14 = .ok (.iconst 0, 1) := by decide +kernel
theorem dX4_counter_15 : decode cX4_counter 15 = .ok (.ireturn, 1) := by decide +kernel
theorem dX4_state_0 : decode cX4_state 0 = .ok (.aload_n 0, 1) := by decide +kernel
theorem dX4_state_1 : decode cX4_state 1 = .ok (.getfield 165, 3) := by decide +kernel
theorem dX4_state_4 : decode cX4_state 4 = .ok (.ifCond .eq 22, 3) := by decide +kernel
theorem dX4_state_7 : decode cX4_state 7 = .ok (.iload_n 1, 1) := by decide +kernel
theorem dX4_state_8 : decode cX4_state 8 = .ok (.ifCond .lt 18, 3) := by decide +kernel
theorem dX4_state_11 : decode cX4_state 11 = .ok (.iload_n 1, 1) := by decide +kernel
theorem dX4_state_12 : decode cX4_state 12 = .ok (.iconst 1, 1) := by decide +kernel
theorem dX4_state_13 : decode cX4_state 13 = .ok (.if_icmp .gt 13, 3) := by decide +kernel
theorem dX4_state_16 : decode cX4_state 16 = .ok (.iload_n 2, 1) := by decide +kernel
theorem dX4_state_17 : decode cX4_state 17 = .ok (.ifCond .lt 9, 3) := by decide +kernel
theorem dX4_state_20 : decode cX4_state 20 = .ok (.iload_n 2, 1) := by decide +kernel
theorem dX4_state_21 : decode cX4_state 21 = .ok (.bipush 32, 2) := by decide +kernel
theorem dX4_state_23 : decode cX4_state 23 = .ok (.if_icmp .lt 5, 3) := by decide +kernel
theorem dX4_state_26 : decode cX4_state 26 = .ok (.iconst (-1), 1) := by decide +kernel
theorem dX4_state_27 : decode cX4_state 27 = .ok (.ireturn, 1) := by decide +kernel
theorem dX4_state_28 : decode cX4_state 28 = .ok (.iload_n 1, 1) := by decide +kernel
theorem dX4_state_29 : decode cX4_state 29 = .ok (.ifCond .ne 12, 3) := by decide +kernel
theorem dX4_state_32 : decode cX4_state 32 = .ok (.aload_n 0, 1) := by decide +kernel
theorem dX4_state_33 : decode cX4_state 33 = .ok (.getfield 109, 3) := by decide +kernel
theorem dX4_state_36 : decode cX4_state 36 = .ok (.iload_n 2, 1) := by decide +kernel
theorem dX4_state_37 : decode cX4_state 37 = .ok (.iaload, 1) := by decide +kernel
theorem dX4_state_38 : decode cX4_state 38 = .ok (.goto 9, 3) := by decide +kernel
theorem dX4_state_41 : decode cX4_state 41 = .ok (.aload_n 0, 1) := by decide +kernel
theorem dX4_state_42 : decode cX4_state 42 = .ok (.getfield 112, 3) := by decide +kernel
theorem dX4_state_45 : decode cX4_state 45 = .ok (.iload_n 2, 1) := by decide +kernel
theorem dX4_state_46 : decode cX4_state 46 = .ok (.iaload, 1) := by decide +kernel
theorem dX4_state_47 : decode cX4_state 47 = .ok (.ireturn, 1) := by decide +kernel
set_option maxRecDepth 20000 in
theorem ggX4_hash_X4_put : GoodIn wsX4_hash wsX4_put := goodIn_r _ [8, 9, 10, 26, 27, 28, 29, 30, 31, 32, 33, 34, 35, 36, 37, 38, 39, 40, 41, 42, 43, 44, 45, 46, 47] (by decide +kernel) (by decide +kernel)
set_option maxRecDepth 20000 in
theorem gX4_hash_X4_put : GoodIn wsX4_hash (wsV RX4 135 RX4 yX4_put wsX4_put) := goodIn_app (goodIn_of _ (by decide +kernel)) ggX4_hash_X4_put
set_option maxRecDepth 20000 in
theorem ggX4_hash_X4_hashRow : GoodIn wsX4_hash wsX4_hashRow := goodIn_r _ [14, 10, 15, 16, 3, 4, 5, 6, 7, 8, 9, 17, 18, 19, 20, 21, 22, 23, 24, 25, 26, 27, 28, 29, 30, 31, 32, 33, 34, 35, 36, 37, 38, 39, 40, 41, 42, 43, 44, 45, 46, 47] (by decide +kernel) (by decide +kernel)
set_option maxRecDepth 20000 in
theorem gX4_hash_X4_hashRow : GoodIn wsX4_hash (wsV RX4 142 RX4 yX4_hashRow wsX4_hashRow) := goodIn_app (goodIn_of _ (by decide +kernel)) ggX4_hash_X4_hashRow
theorem dX4_hash_0 : decode cX4_hash 0 = .ok (.iload_n 1, 1) := by decide +kernel
theorem dX4_hash_1 : decode cX4_hash 1 = .ok (.ifCond .lt 9, 3) := by decide +kernel
theorem dX4_hash_4 : decode cX4_hash 4 = .ok (.iload_n 1, 1) := by decide +kernel
theorem dX4_hash_5 : decode cX4_hash 5 = .ok (.bipush 32, 2) := by decide +kernel
theorem dX4_hash_7 : decode cX4_hash 7 = .ok (.if_icmp .lt 5, 3) := by decide +kernel
theorem dX4_hash_10 : decode cX4_hash 10 = .ok (.iconst (-1), 1) := by decide +kernel
theorem dX4_hash_11 : decode cX4_hash 11 = .ok (.ireturn, 1) := by decide +kernel
theorem dX4_hash_12 : decode cX4_hash 12 = .ok (.iconst 0, 1) := by decide +kernel
theorem dX4_hash_13 : decode cX4_hash 13 = .ok (.istore_n 2, 1) := by decide +kernel
theorem dX4_hash_14 : decode cX4_hash 14 = .ok (.iload_n 2, 1) := by decide +kernel
theorem dX4_hash_15 : decode cX4_hash 15 = .ok (.aload_n 0, 1) := by decide +kernel
theorem dX4_hash_16 : decode cX4_hash 16 = .ok (.getfield 154, 3) := by decide +kernel
theorem dX4_hash_19 : decode cX4_hash 19 = .ok (.if_icmp .ge 19, 3) := by decide +kernel
theorem dX4_hash_22 : decode cX4_hash 22 = .ok (.aload_n 0, 1) := by decide +kernel
theorem dX4_hash_23 : decode cX4_hash 23 = .ok (.aload_n 0, 1) := by decide +kernel
theorem dX4_hash_24 : decode cX4_hash 24 = .ok (.getfield 103, 3) := by decide +kernel
theorem dX4_hash_27 : decode cX4_hash 27 = .ok (.iload_n 2, 1) := by decide +kernel
theorem dX4_hash_28 : decode cX4_hash 28 = .ok (.iaload, 1) := by decide +kernel
theorem dX4_hash_29 : decode cX4_hash 29 = .ok (.invokevirtual 135, 3) := by decide +kernel
theorem dX4_hash_32 : decode cX4_hash 32 = .ok (.iinc 2 1, 3) := by decide +kernel
theorem dX4_hash_35 : decode cX4_hash 35 = .ok (.goto (-21), 3) := by decide +kernel
theorem dX4_hash_38 : decode cX4_hash 38 = .ok (.aload_n 0, 1) := by decide +kernel
theorem dX4_hash_39 : decode cX4_hash 39 = .ok (.invokevirtual 142, 3) := by decide +kernel
theorem dX4_hash_42 : decode cX4_hash 42 = .ok (.aload_n 0, 1) := by decide +kernel
theorem dX4_hash_43 : decode cX4_hash 43 = .ok (.getfield 97, 3) := by decide +kernel
theorem dX4_hash_46 : decode cX4_hash 46 = .ok (.iload_n 1, 1) := by decide +kernel
theorem dX4_hash_47 : decode cX4_hash 47 = .ok (.iaload, 1) := by decide +kernel
theorem dX4_hash_48 : decode cX4_hash 48 = .ok (.ireturn, 1) := by decide +kernel
set_option maxRecDepth 20000 in
theorem ggX4_keyed_X4_put : GoodIn wsX4_keyed wsX4_put := goodIn_r _ [11, 12, 13, 37, 38, 39, 40, 41, 42, 43, 44, 45, 46, 47, 48, 49, 50, 51, 52, 53, 54, 55, 56, 57, 58] (by decide +kernel) (by decide +kernel)
set_option maxRecDepth 20000 in
theorem gX4_keyed_X4_put : GoodIn wsX4_keyed (wsV RX4 135 RX4 yX4_put wsX4_put) := goodIn_app (goodIn_of _ (by decide +kernel)) ggX4_keyed_X4_put
set_option maxRecDepth 20000 in
theorem ggX4_keyed_X4_hashRow : GoodIn wsX4_keyed wsX4_hashRow := goodIn_r _ [17, 13, 18, 19, 4, 7, 8, 9, 10, 11, 12, 20, 21, 22, 23, 24, 25, 26, 27, 28, 37, 38, 39, 40, 41, 42, 43, 44, 45, 46, 47, 48, 49, 50, 51, 52, 53, 54, 55, 56, 57, 58] (by decide +kernel) (by decide +kernel)
set_option maxRecDepth 20000 in
theorem gX4_keyed_X4_hashRow : GoodIn wsX4_keyed (wsV RX4 142 RX4 yX4_hashRow wsX4_hashRow) := goodIn_app (goodIn_of _ (by decide +kernel)) ggX4_keyed_X4_hashRow
set_option maxRecDepth 20000 in
theorem ggX4_keyed_X4_putPad : GoodIn wsX4_keyed wsX4_putPad := goodIn_r _ [32, 3, 7, 8, 9, 10, 11, 12, 13, 37, 38, 39, 40, 41, 42, 43, 44, 45, 46, 47, 48, 49, 50, 51, 52, 53, 54, 55, 56, 57, 58] (by decide +kernel) (by decide +kernel)
set_option maxRecDepth 20000 in
theorem gX4_keyed_X4_putPad : GoodIn wsX4_keyed (wsV RX4 145 RX4 yX4_putPad wsX4_putPad) := goodIn_app (goodIn_of _ (by decide +kernel)) ggX4_keyed_X4_putPad
set_option maxRecDepth 20000 in
theorem ggX4_keyed_X4_finishKeyed : GoodIn wsX4_keyed wsX4_finishKeyed := goodIn_r _ [36, 4, 14, 15, 16, 10, 17, 13, 18, 19, 7, 8, 9, 11, 12, 20, 21, 22, 23, 24, 25, 26, 27, 28, 29, 30, 31, 32, 3, 37, 38, 39, 40, 41, 42, 43, 44, 45, 46, 47, 48, 49, 50, 51, 52, 53, 54, 55, 56, 57, 58] (by decide +kernel) (by decide +kernel)
set_option maxRecDepth 20000 in
theorem gX4_keyed_X4_finishKeyed : GoodIn wsX4_keyed (wsV RX4 151 RX4 yX4_finishKeyed wsX4_finishKeyed) := goodIn_app (goodIn_of _ (by decide +kernel)) ggX4_keyed_X4_finishKeyed
theorem dX4_keyed_0 : decode cX4_keyed 0 = .ok (.iload_n 1, 1) := by decide +kernel
theorem dX4_keyed_1 : decode cX4_keyed 1 = .ok (.ifCond .lt 9, 3) := by decide +kernel
theorem dX4_keyed_4 : decode cX4_keyed 4 = .ok (.iload_n 1, 1) := by decide +kernel
theorem dX4_keyed_5 : decode cX4_keyed 5 = .ok (.bipush 32, 2) := by decide +kernel
theorem dX4_keyed_7 : decode cX4_keyed 7 = .ok (.if_icmp .lt 5, 3) := by decide +kernel
theorem dX4_keyed_10 : decode cX4_keyed 10 = .ok (.iconst (-1), 1) := by decide +kernel
theorem dX4_keyed_11 : decode cX4_keyed 11 = .ok (.ireturn, 1) := by decide +kernel
theorem dX4_keyed_12 : decode cX4_keyed 12 = .ok (.aload_n 0, 1) := by decide +kernel
theorem dX4_keyed_13 : decode cX4_keyed 13 = .ok (.getfield 178, 3) := by decide +kernel
theorem dX4_keyed_16 : decode cX4_keyed 16 = .ok (.bipush 64, 2) := by decide +kernel
theorem dX4_keyed_18 : decode cX4_keyed 18 = .ok (.if_icmp .le 33, 3) := by decide +kernel
theorem dX4_keyed_21 : decode cX4_keyed 21 = .ok (.iconst 0, 1) := by decide +kernel
theorem dX4_keyed_22 : decode cX4_keyed 22 = .ok (.istore_n 2, 1) := by decide +kernel
theorem dX4_keyed_23 : decode cX4_keyed 23 = .ok (.iload_n 2, 1) := by decide +kernel
theorem dX4_keyed_24 : decode cX4_keyed 24 = .ok (.aload_n 0, 1) := by decide +kernel
theorem dX4_keyed_25 : decode cX4_keyed 25 = .ok (.getfield 178, 3) := by decide +kernel
theorem dX4_keyed_28 : decode cX4_keyed 28 = .ok (.if_icmp .ge 19, 3) := by decide +kernel
theorem dX4_keyed_31 : decode cX4_keyed 31 = .ok (.aload_n 0, 1) := by decide +kernel
theorem dX4_keyed_32 : decode cX4_keyed 32 = .ok (.aload_n 0, 1) := by decide +kernel
theorem dX4_keyed_33 : decode cX4_keyed 33 = .ok (.getfield 106, 3) := by decide +kernel
theorem dX4_keyed_36 : decode cX4_keyed 36 = .ok (.iload_n 2, 1) := by decide +kernel
theorem dX4_keyed_37 : decode cX4_keyed 37 = .ok (.iaload, 1) := by decide +kernel
theorem dX4_keyed_38 : decode cX4_keyed 38 = .ok (.invokevirtual 135, 3) := by decide +kernel
theorem dX4_keyed_41 : decode cX4_keyed 41 = .ok (.iinc 2 1, 3) := by decide +kernel
theorem dX4_keyed_44 : decode cX4_keyed 44 = .ok (.goto (-21), 3) := by decide +kernel
theorem dX4_keyed_47 : decode cX4_keyed 47 = .ok (.aload_n 0, 1) := by decide +kernel
theorem dX4_keyed_48 : decode cX4_keyed 48 = .ok (.invokevirtual 142, 3) := by decide +kernel
theorem dX4_keyed_51 : decode cX4_keyed 51 = .ok (.iconst 0, 1) := by decide +kernel
theorem dX4_keyed_52 : decode cX4_keyed 52 = .ok (.istore_n 2, 1) := by decide +kernel
theorem dX4_keyed_53 : decode cX4_keyed 53 = .ok (.iload_n 2, 1) := by decide +kernel
theorem dX4_keyed_54 : decode cX4_keyed 54 = .ok (.bipush 64, 2) := by decide +kernel
theorem dX4_keyed_56 : decode cX4_keyed 56 = .ok (.if_icmp .ge 61, 3) := by decide +kernel
theorem dX4_keyed_59 : decode cX4_keyed 59 = .ok (.aload_n 0, 1) := by decide +kernel
theorem dX4_keyed_60 : decode cX4_keyed 60 = .ok (.getfield 100, 3) := by decide +kernel
theorem dX4_keyed_63 : decode cX4_keyed 63 = .ok (.iload_n 2, 1) := by decide +kernel
theorem dX4_keyed_64 : decode cX4_keyed 64 = .ok (.aload_n 0, 1) := by decide +kernel
theorem dX4_keyed_65 : decode cX4_keyed 65 = .ok (.getfield 178, 3) := by decide +kernel
theorem dX4_keyed_68 : decode cX4_keyed 68 = .ok (.bipush 64, 2) := by decide +kernel
theorem dX4_keyed_70 : decode cX4_keyed 70 = .ok (.if_icmp .le 22, 3) := by decide +kernel
theorem dX4_keyed_73 : decode cX4_keyed 73 = .ok (.iload_n 2, 1) := by decide +kernel
theorem dX4_keyed_74 : decode cX4_keyed 74 = .ok (.bipush 32, 2) := by decide +kernel
theorem dX4_keyed_76 : decode cX4_keyed 76 = .ok (.if_icmp .ge 12, 3) := by decide +kernel
theorem dX4_keyed_79 : decode cX4_keyed 79 = .ok (.aload_n 0, 1) := by decide +kernel
theorem dX4_keyed_80 : decode cX4_keyed 80 = .ok (.getfield 97, 3) := by decide +kernel
theorem dX4_keyed_83 : decode cX4_keyed 83 = .ok (.iload_n 2, 1) := by decide +kernel
theorem dX4_keyed_84 : decode cX4_keyed 84 = .ok (.iaload, 1) := by decide +kernel
theorem dX4_keyed_85 : decode cX4_keyed 85 = .ok (.goto 25, 3) := by decide +kernel
theorem dX4_keyed_88 : decode cX4_keyed 88 = .ok (.iconst 0, 1) := by decide +kernel
theorem dX4_keyed_89 : decode cX4_keyed 89 = .ok (.goto 21, 3) := by decide +kernel
theorem dX4_keyed_92 : decode cX4_keyed 92 = .ok (.iload_n 2, 1) := by decide +kernel
theorem dX4_keyed_93 : decode cX4_keyed 93 = .ok (.aload_n 0, 1) := by decide +kernel
theorem dX4_keyed_94 : decode cX4_keyed 94 = .ok (.getfield 178, 3) := by decide +kernel
theorem dX4_keyed_97 : decode cX4_keyed 97 = .ok (.if_icmp .ge 12, 3) := by decide +kernel
theorem dX4_keyed_100 : decode cX4_keyed 100 = .ok (.aload_n 0, 1) := by decide +kernel
theorem dX4_keyed_101 : decode cX4_keyed 101 = .ok (.getfield 106, 3) := by decide +kernel
theorem dX4_keyed_104 : decode cX4_keyed 104 = .ok (.iload_n 2, 1) := by decide +kernel
theorem dX4_keyed_105 : decode cX4_keyed 105 = .ok (.iaload, 1) := by decide +kernel
theorem dX4_keyed_106 : decode cX4_keyed 106 = .ok (.goto 4, 3) := by decide +kernel
theorem dX4_keyed_109 : decode cX4_keyed 109 = .ok (.iconst 0, 1) := by decide +kernel
theorem dX4_keyed_110 : decode cX4_keyed 110 = .ok (.iastore, 1) := by decide +kernel
theorem dX4_keyed_111 : decode cX4_keyed 111 = .ok (.iinc 2 1, 3) := by decide +kernel
theorem dX4_keyed_114 : decode cX4_keyed 114 = .ok (.goto (-61), 3) := by decide +kernel
theorem dX4_keyed_117 : decode cX4_keyed 117 = .ok (.aload_n 0, 1) := by decide +kernel
theorem dX4_keyed_118 : decode cX4_keyed 118 = .ok (.bipush 54, 2) := by decide +kernel
theorem dX4_keyed_120 : decode cX4_keyed 120 = .ok (.invokevirtual 145, 3) := by decide +kernel
theorem dX4_keyed_123 : decode cX4_keyed 123 = .ok (.iconst 0, 1) := by decide +kernel
theorem dX4_keyed_124 : decode cX4_keyed 124 = .ok (.istore_n 2, 1) := by decide +kernel
theorem dX4_keyed_125 : decode cX4_keyed 125 = .ok (.iload_n 2, 1) := by decide +kernel
theorem dX4_keyed_126 : decode cX4_keyed 126 = .ok (.aload_n 0, 1) := by decide +kernel
theorem dX4_keyed_127 : decode cX4_keyed 127 = .ok (.getfield 154, 3) := by decide +kernel
theorem dX4_keyed_130 : decode cX4_keyed 130 = .ok (.if_icmp .ge 19, 3) := by decide +kernel
theorem dX4_keyed_133 : decode cX4_keyed 133 = .ok (.aload_n 0, 1) := by decide +kernel
theorem dX4_keyed_134 : decode cX4_keyed 134 = .ok (.aload_n 0, 1) := by decide +kernel
theorem dX4_keyed_135 : decode cX4_keyed 135 = .ok (.getfield 103, 3) := by decide +kernel
theorem dX4_keyed_138 : decode cX4_keyed 138 = .ok (.iload_n 2, 1) := by decide +kernel
theorem dX4_keyed_139 : decode cX4_keyed 139 = .ok (.iaload, 1) := by decide +kernel
theorem dX4_keyed_140 : decode cX4_keyed 140 = .ok (.invokevirtual 135, 3) := by decide +kernel
theorem dX4_keyed_143 : decode cX4_keyed 143 = .ok (.iinc 2 1, 3) := by decide +kernel
theorem dX4_keyed_146 : decode cX4_keyed 146 = .ok (.goto (-21), 3) := by decide +kernel
theorem dX4_keyed_149 : decode cX4_keyed 149 = .ok (.aload_n 0, 1) := by decide +kernel
theorem dX4_keyed_150 : decode cX4_keyed 150 = .ok (.invokevirtual 151, 3) := by decide +kernel
theorem dX4_keyed_153 : decode cX4_keyed 153 = .ok (.aload_n 0, 1) := by decide +kernel
theorem dX4_keyed_154 : decode cX4_keyed 154 = .ok (.getfield 97, 3) := by decide +kernel
theorem dX4_keyed_157 : decode cX4_keyed 157 = .ok (.iload_n 1, 1) := by decide +kernel
theorem dX4_keyed_158 : decode cX4_keyed 158 = .ok (.iaload, 1) := by decide +kernel
theorem dX4_keyed_159 : decode cX4_keyed 159 = .ok (.ireturn, 1) := by decide +kernel
theorem dX4_count_0 : decode cX4_count 0 = .ok (.iload_n 1, 1) := by decide +kernel
theorem dX4_count_1 : decode cX4_count 1 = .ok (.tableswitch 60 0 4 #[35, 40, 45, 50, 55], 35) := by decide +kernel
theorem dX4_count_36 : decode cX4_count 36 = .ok (.aload_n 0, 1) := by decide +kernel
theorem dX4_count_37 : decode cX4_count 37 = .ok (.getfield 154, 3) := by decide +kernel
theorem dX4_count_40 : decode cX4_count 40 = .ok (.ireturn, 1) := by decide +kernel
theorem dX4_count_41 : decode cX4_count 41 = .ok (.aload_n 0, 1) := by decide +kernel
theorem dX4_count_42 : decode cX4_count 42 = .ok (.getfield 172, 3) := by decide +kernel
theorem dX4_count_45 : decode cX4_count 45 = .ok (.ireturn, 1) := by decide +kernel
theorem dX4_count_46 : decode cX4_count 46 = .ok (.aload_n 0, 1) := by decide +kernel
theorem dX4_count_47 : decode cX4_count 47 = .ok (.getfield 178, 3) := by decide +kernel
theorem dX4_count_50 : decode cX4_count 50 = .ok (.ireturn, 1) := by decide +kernel
theorem dX4_count_51 : decode cX4_count 51 = .ok (.aload_n 0, 1) := by decide +kernel
theorem dX4_count_52 : decode cX4_count 52 = .ok (.getfield 175, 3) := by decide +kernel
theorem dX4_count_55 : decode cX4_count 55 = .ok (.ireturn, 1) := by decide +kernel
theorem dX4_count_56 : decode cX4_count 56 = .ok (.aload_n 0, 1) := by decide +kernel
theorem dX4_count_57 : decode cX4_count 57 = .ok (.getfield 118, 3) := by decide +kernel
theorem dX4_count_60 : decode cX4_count 60 = .ok (.ireturn, 1) := by decide +kernel
theorem dX4_count_61 : decode cX4_count 61 = .ok (.iconst (-1), 1) := by decide +kernel
theorem dX4_count_62 : decode cX4_count 62 = .ok (.ireturn, 1) := by decide +kernel
theorem dX4_check_0 : decode cX4_check 0 = .ok (.iconst 1, 1) := by decide +kernel
theorem dX4_check_1 : decode cX4_check 1 = .ok (.istore_n 1, 1) := by decide +kernel
theorem dX4_check_2 : decode cX4_check 2 = .ok (.iconst 0, 1) := by decide +kernel
theorem dX4_check_3 : decode cX4_check 3 = .ok (.istore_n 2, 1) := by decide +kernel
theorem dX4_check_4 : decode cX4_check 4 = .ok (.iload_n 2, 1) := by decide +kernel
theorem dX4_check_5 : decode cX4_check 5 = .ok (.bipush 32, 2) := by decide +kernel
theorem dX4_check_7 : decode cX4_check 7 = .ok (.if_icmp .ge 34, 3) := by decide +kernel
theorem dX4_check_10 : decode cX4_check 10 = .ok (.iload_n 1, 1) := by decide +kernel
theorem dX4_check_11 : decode cX4_check 11 = .ok (.ifCond .eq 22, 3) := by decide +kernel
theorem dX4_check_14 : decode cX4_check 14 = .ok (.aload_n 0, 1) := by decide +kernel
theorem dX4_check_15 : decode cX4_check 15 = .ok (.getfield 112, 3) := by decide +kernel
theorem dX4_check_18 : decode cX4_check 18 = .ok (.iload_n 2, 1) := by decide +kernel
theorem dX4_check_19 : decode cX4_check 19 = .ok (.iaload, 1) := by decide +kernel
theorem dX4_check_20 : decode cX4_check 20 = .ok (.aload_n 0, 1) := by decide +kernel
theorem dX4_check_21 : decode cX4_check 21 = .ok (.getfield 115, 3) := by decide +kernel
theorem dX4_check_24 : decode cX4_check 24 = .ok (.iload_n 2, 1) := by decide +kernel
theorem dX4_check_25 : decode cX4_check 25 = .ok (.iaload, 1) := by decide +kernel
theorem dX4_check_26 : decode cX4_check 26 = .ok (.if_icmp .ne 7, 3) := by decide +kernel
theorem dX4_check_29 : decode cX4_check 29 = .ok (.iconst 1, 1) := by decide +kernel
theorem dX4_check_30 : decode cX4_check 30 = .ok (.goto 4, 3) := by decide +kernel
theorem dX4_check_33 : decode cX4_check 33 = .ok (.iconst 0, 1) := by decide +kernel
theorem dX4_check_34 : decode cX4_check 34 = .ok (.istore_n 1, 1) := by decide +kernel
theorem dX4_check_35 : decode cX4_check 35 = .ok (.iinc 2 1, 3) := by decide +kernel
theorem dX4_check_38 : decode cX4_check 38 = .ok (.goto (-34), 3) := by decide +kernel
theorem dX4_check_41 : decode cX4_check 41 = .ok (.iload_n 1, 1) := by decide +kernel
theorem dX4_check_42 : decode cX4_check 42 = .ok (.ifCond .ne 10, 3) := by decide +kernel
theorem dX4_check_45 : decode cX4_check 45 = .ok (.aload_n 0, 1) := by decide +kernel
theorem dX4_check_46 : decode cX4_check 46 = .ok (.getfield 165, 3) := by decide +kernel
theorem dX4_check_49 : decode cX4_check 49 = .ok (.ifCond .ne 7, 3) := by decide +kernel
theorem dX4_check_52 : decode cX4_check 52 = .ok (.iconst 1, 1) := by decide +kernel
theorem dX4_check_53 : decode cX4_check 53 = .ok (.goto 4, 3) := by decide +kernel
theorem dX4_check_56 : decode cX4_check 56 = .ok (.iconst 0, 1) := by decide +kernel
theorem dX4_check_57 : decode cX4_check 57 = .ok (.ireturn, 1) := by decide +kernel
