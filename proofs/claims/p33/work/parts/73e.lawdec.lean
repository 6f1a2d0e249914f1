theorem dL_around_43 : decode cL_around 43 = .ok (.iload_n 1, 1) := by decide +kernel
theorem dL_around_44 : decode cL_around 44 = .ok (.iload_n 3, 1) := by decide +kernel
theorem dL_around_45 : decode cL_around 45 = .ok (.invokevirtual 20, 3) := by decide +kernel
theorem dL_around_48 : decode cL_around 48 = .ok (.iconst (-1), 1) := by decide +kernel
theorem dL_around_49 : decode cL_around 49 = .ok (.if_icmp .ne 18, 3) := by decide +kernel
theorem dL_around_52 : decode cL_around 52 = .ok (.aload_n 0, 1) := by decide +kernel
theorem dL_around_53 : decode cL_around 53 = .ok (.iload_n 1, 1) := by decide +kernel
theorem dL_around_54 : decode cL_around 54 = .ok (.ldc 108, 2) := by decide +kernel
theorem dL_around_56 : decode cL_around 56 = .ok (.invokevirtual 20, 3) := by decide +kernel
theorem dL_around_59 : decode cL_around 59 = .ok (.iconst (-1), 1) := by decide +kernel
theorem dL_around_60 : decode cL_around 60 = .ok (.if_icmp .ne 7, 3) := by decide +kernel
theorem dL_around_63 : decode cL_around 63 = .ok (.iconst 1, 1) := by decide +kernel
theorem dL_around_64 : decode cL_around 64 = .ok (.goto 4, 3) := by decide +kernel
theorem dL_around_67 : decode cL_around 67 = .ok (.iconst 0, 1) := by decide +kernel
theorem dL_around_68 : decode cL_around 68 = .ok (.ireturn, 1) := by decide +kernel
theorem dL_nets_0 : decode cL_nets 0 = .ok (.new 8, 3) := by decide +kernel
theorem dL_nets_3 : decode cL_nets 3 = .ok (.dup, 1) := by decide +kernel
theorem dL_nets_4 : decode cL_nets 4 = .ok (.invokespecial 126, 3) := by decide +kernel
theorem dL_nets_7 : decode cL_nets 7 = .ok (.astore_n 0, 1) := by decide +kernel
theorem dL_nets_8 : decode cL_nets 8 = .ok (.aload_n 0, 1) := by decide +kernel
theorem dL_nets_9 : decode cL_nets 9 = .ok (.iconst 0, 1) := by decide +kernel
theorem dL_nets_10 : decode cL_nets 10 = .ok (.iconst 0, 1) := by decide +kernel
theorem dL_nets_11 : decode cL_nets 11 = .ok (.iconst 0, 1) := by decide +kernel
theorem dL_nets_12 : decode cL_nets 12 = .ok (.iconst 2, 1) := by decide +kernel
theorem dL_nets_13 : decode cL_nets 13 = .ok (.iconst 0, 1) := by decide +kernel
theorem dL_nets_14 : decode cL_nets 14 = .ok (.invokestatic 127, 3) := by decide +kernel
theorem dL_nets_17 : decode cL_nets 17 = .ok (.ifCond .eq 228, 3) := by decide +kernel
theorem dL_nets_20 : decode cL_nets 20 = .ok (.aload_n 0, 1) := by decide +kernel
theorem dL_nets_21 : decode cL_nets 21 = .ok (.iconst 4, 1) := by decide +kernel
theorem dL_nets_22 : decode cL_nets 22 = .ok (.iconst 0, 1) := by decide +kernel
theorem dL_nets_23 : decode cL_nets 23 = .ok (.iconst 3, 1) := by decide +kernel
theorem dL_nets_24 : decode cL_nets 24 = .ok (.invokestatic 131, 3) := by decide +kernel
theorem dL_nets_27 : decode cL_nets 27 = .ok (.ifCond .eq 218, 3) := by decide +kernel
theorem dL_nets_30 : decode cL_nets 30 = .ok (.aload_n 0, 1) := by decide +kernel
theorem dL_nets_31 : decode cL_nets 31 = .ok (.iconst 0, 1) := by decide +kernel
theorem dL_nets_32 : decode cL_nets 32 = .ok (.iconst 0, 1) := by decide +kernel
theorem dL_nets_33 : decode cL_nets 33 = .ok (.iconst 1, 1) := by decide +kernel
theorem dL_nets_34 : decode cL_nets 34 = .ok (.iconst 2, 1) := by decide +kernel
theorem dL_nets_35 : decode cL_nets 35 = .ok (.invokestatic 134, 3) := by decide +kernel
theorem dL_nets_38 : decode cL_nets 38 = .ok (.ifCond .eq 207, 3) := by decide +kernel
theorem dL_nets_41 : decode cL_nets 41 = .ok (.aload_n 0, 1) := by decide +kernel
theorem dL_nets_42 : decode cL_nets 42 = .ok (.iconst 1, 1) := by decide +kernel
theorem dL_nets_43 : decode cL_nets 43 = .ok (.iconst 0, 1) := by decide +kernel
theorem dL_nets_44 : decode cL_nets 44 = .ok (.iconst 3, 1) := by decide +kernel
theorem dL_nets_45 : decode cL_nets 45 = .ok (.iconst 1, 1) := by decide +kernel
theorem dL_nets_46 : decode cL_nets 46 = .ok (.invokestatic 134, 3) := by decide +kernel
theorem dL_nets_49 : decode cL_nets 49 = .ok (.ifCond .eq 196, 3) := by decide +kernel
theorem dL_nets_52 : decode cL_nets 52 = .ok (.aload_n 0, 1) := by decide +kernel
theorem dL_nets_53 : decode cL_nets 53 = .ok (.iconst 2, 1) := by decide +kernel
theorem dL_nets_54 : decode cL_nets 54 = .ok (.iconst 1, 1) := by decide +kernel
theorem dL_nets_55 : decode cL_nets 55 = .ok (.iconst 3, 1) := by decide +kernel
theorem dL_nets_56 : decode cL_nets 56 = .ok (.iconst 2, 1) := by decide +kernel
theorem dL_nets_57 : decode cL_nets 57 = .ok (.invokestatic 134, 3) := by decide +kernel
theorem dL_nets_60 : decode cL_nets 60 = .ok (.ifCond .eq 185, 3) := by decide +kernel
theorem dL_nets_63 : decode cL_nets 63 = .ok (.aload_n 0, 1) := by decide +kernel
theorem dL_nets_64 : decode cL_nets 64 = .ok (.iconst 3, 1) := by decide +kernel
theorem dL_nets_65 : decode cL_nets 65 = .ok (.iconst 0, 1) := by decide +kernel
theorem dL_nets_66 : decode cL_nets 66 = .ok (.iconst 2, 1) := by decide +kernel
theorem dL_nets_67 : decode cL_nets 67 = .ok (.iconst 3, 1) := by decide +kernel
theorem dL_nets_68 : decode cL_nets 68 = .ok (.invokestatic 134, 3) := by decide +kernel
theorem dL_nets_71 : decode cL_nets 71 = .ok (.ifCond .eq 174, 3) := by decide +kernel
theorem dL_nets_74 : decode cL_nets 74 = .ok (.aload_n 0, 1) := by decide +kernel
theorem dL_nets_75 : decode cL_nets 75 = .ok (.iconst 0, 1) := by decide +kernel
theorem dL_nets_76 : decode cL_nets 76 = .ok (.sipush 321, 3) := by decide +kernel
theorem dL_nets_79 : decode cL_nets 79 = .ok (.iconst 3, 1) := by decide +kernel
theorem dL_nets_80 : decode cL_nets 80 = .ok (.invokestatic 138, 3) := by decide +kernel
theorem dL_nets_83 : decode cL_nets 83 = .ok (.ifCond .eq 162, 3) := by decide +kernel
theorem dL_nets_86 : decode cL_nets 86 = .ok (.aload_n 0, 1) := by decide +kernel
theorem dL_nets_87 : decode cL_nets 87 = .ok (.iconst 1, 1) := by decide +kernel
theorem dL_nets_88 : decode cL_nets 88 = .ok (.sipush 230, 3) := by decide +kernel
theorem dL_nets_91 : decode cL_nets 91 = .ok (.iconst 3, 1) := by decide +kernel
theorem dL_nets_92 : decode cL_nets 92 = .ok (.invokestatic 138, 3) := by decide +kernel
theorem dL_nets_95 : decode cL_nets 95 = .ok (.ifCond .eq 150, 3) := by decide +kernel
theorem dL_nets_98 : decode cL_nets 98 = .ok (.aload_n 0, 1) := by decide +kernel
theorem dL_nets_99 : decode cL_nets 99 = .ok (.iconst 2, 1) := by decide +kernel
theorem dL_nets_100 : decode cL_nets 100 = .ok (.sipush 310, 3) := by decide +kernel
theorem dL_nets_103 : decode cL_nets 103 = .ok (.iconst 3, 1) := by decide +kernel
theorem dL_nets_104 : decode cL_nets 104 = .ok (.invokestatic 138, 3) := by decide +kernel
theorem dL_nets_107 : decode cL_nets 107 = .ok (.ifCond .eq 138, 3) := by decide +kernel
theorem dL_nets_110 : decode cL_nets 110 = .ok (.aload_n 0, 1) := by decide +kernel
theorem dL_nets_111 : decode cL_nets 111 = .ok (.iconst 3, 1) := by decide +kernel
theorem dL_nets_112 : decode cL_nets 112 = .ok (.bipush 120, 2) := by decide +kernel
theorem dL_nets_114 : decode cL_nets 114 = .ok (.iconst 3, 1) := by decide +kernel
theorem dL_nets_115 : decode cL_nets 115 = .ok (.invokestatic 138, 3) := by decide +kernel
theorem dL_nets_118 : decode cL_nets 118 = .ok (.ifCond .eq 127, 3) := by decide +kernel
theorem dL_nets_121 : decode cL_nets 121 = .ok (.aload_n 0, 1) := by decide +kernel
theorem dL_nets_122 : decode cL_nets 122 = .ok (.iconst 1, 1) := by decide +kernel
theorem dL_nets_123 : decode cL_nets 123 = .ok (.iconst 0, 1) := by decide +kernel
theorem dL_nets_124 : decode cL_nets 124 = .ok (.iconst 1, 1) := by decide +kernel
theorem dL_nets_125 : decode cL_nets 125 = .ok (.iconst 0, 1) := by decide +kernel
theorem dL_nets_126 : decode cL_nets 126 = .ok (.iconst 0, 1) := by decide +kernel
theorem dL_nets_127 : decode cL_nets 127 = .ok (.invokestatic 117, 3) := by decide +kernel
theorem dL_nets_130 : decode cL_nets 130 = .ok (.ldc2_w 106, 3) := by decide +kernel
theorem dL_nets_133 : decode cL_nets 133 = .ok (.lcmp, 1) := by decide +kernel
theorem dL_nets_134 : decode cL_nets 134 = .ok (.ifCond .ne 111, 3) := by decide +kernel
theorem dL_nets_137 : decode cL_nets 137 = .ok (.aload_n 0, 1) := by decide +kernel
theorem dL_nets_138 : decode cL_nets 138 = .ok (.iconst 0, 1) := by decide +kernel
theorem dL_nets_139 : decode cL_nets 139 = .ok (.invokevirtual 7, 3) := by decide +kernel
theorem dL_nets_142 : decode cL_nets 142 = .ok (.iconst 4, 1) := by decide +kernel
theorem dL_nets_143 : decode cL_nets 143 = .ok (.if_icmp .ne 102, 3) := by decide +kernel
theorem dL_nets_146 : decode cL_nets 146 = .ok (.aload_n 0, 1) := by decide +kernel
theorem dL_nets_147 : decode cL_nets 147 = .ok (.iconst 5, 1) := by decide +kernel
theorem dL_nets_148 : decode cL_nets 148 = .ok (.iconst 3, 1) := by decide +kernel
theorem dL_nets_149 : decode cL_nets 149 = .ok (.iconst 4, 1) := by decide +kernel
theorem dL_nets_150 : decode cL_nets 150 = .ok (.invokestatic 131, 3) := by decide +kernel
theorem dL_nets_153 : decode cL_nets 153 = .ok (.ifCond .eq 92, 3) := by decide +kernel
theorem dL_nets_156 : decode cL_nets 156 = .ok (.aload_n 0, 1) := by decide +kernel
theorem dL_nets_157 : decode cL_nets 157 = .ok (.iconst 0, 1) := by decide +kernel
theorem dL_nets_158 : decode cL_nets 158 = .ok (.iconst 0, 1) := by decide +kernel
theorem dL_nets_159 : decode cL_nets 159 = .ok (.iconst 1, 1) := by decide +kernel
theorem dL_nets_160 : decode cL_nets 160 = .ok (.iconst 4, 1) := by decide +kernel
theorem dL_nets_161 : decode cL_nets 161 = .ok (.invokestatic 134, 3) := by decide +kernel
theorem dL_nets_164 : decode cL_nets 164 = .ok (.ifCond .eq 81, 3) := by decide +kernel
theorem dL_nets_167 : decode cL_nets 167 = .ok (.aload_n 0, 1) := by decide +kernel
theorem dL_nets_168 : decode cL_nets 168 = .ok (.iconst 4, 1) := by decide +kernel
theorem dL_nets_169 : decode cL_nets 169 = .ok (.iconst 1, 1) := by decide +kernel
theorem dL_nets_170 : decode cL_nets 170 = .ok (.iconst 2, 1) := by decide +kernel
theorem dL_nets_171 : decode cL_nets 171 = .ok (.iconst 4, 1) := by decide +kernel
theorem dL_nets_172 : decode cL_nets 172 = .ok (.invokestatic 134, 3) := by decide +kernel
theorem dL_nets_175 : decode cL_nets 175 = .ok (.ifCond .eq 70, 3) := by decide +kernel
theorem dL_nets_178 : decode cL_nets 178 = .ok (.aload_n 0, 1) := by decide +kernel
theorem dL_nets_179 : decode cL_nets 179 = .ok (.iconst 5, 1) := by decide +kernel
theorem dL_nets_180 : decode cL_nets 180 = .ok (.iconst 0, 1) := by decide +kernel
theorem dL_nets_181 : decode cL_nets 181 = .ok (.iconst 4, 1) := by decide +kernel
theorem dL_nets_182 : decode cL_nets 182 = .ok (.iconst 2, 1) := by decide +kernel
theorem dL_nets_183 : decode cL_nets 183 = .ok (.invokestatic 134, 3) := by decide +kernel
theorem dL_nets_186 : decode cL_nets 186 = .ok (.ifCond .eq 59, 3) := by decide +kernel
theorem dL_nets_189 : decode cL_nets 189 = .ok (.aload_n 0, 1) := by decide +kernel
theorem dL_nets_190 : decode cL_nets 190 = .ok (.iconst 0, 1) := by decide +kernel
theorem dL_nets_191 : decode cL_nets 191 = .ok (.sipush 3241, 3) := by decide +kernel
theorem dL_nets_194 : decode cL_nets 194 = .ok (.iconst 4, 1) := by decide +kernel
theorem dL_nets_195 : decode cL_nets 195 = .ok (.invokestatic 138, 3) := by decide +kernel
theorem dL_nets_198 : decode cL_nets 198 = .ok (.ifCond .eq 47, 3) := by decide +kernel
theorem dL_nets_201 : decode cL_nets 201 = .ok (.aload_n 0, 1) := by decide +kernel
theorem dL_nets_202 : decode cL_nets 202 = .ok (.iconst 4, 1) := by decide +kernel
theorem dL_nets_203 : decode cL_nets 203 = .ok (.sipush 210, 3) := by decide +kernel
theorem dL_nets_206 : decode cL_nets 206 = .ok (.iconst 3, 1) := by decide +kernel
theorem dL_nets_207 : decode cL_nets 207 = .ok (.invokestatic 138, 3) := by decide +kernel
theorem dL_nets_210 : decode cL_nets 210 = .ok (.ifCond .eq 35, 3) := by decide +kernel
theorem dL_nets_213 : decode cL_nets 213 = .ok (.aload_n 0, 1) := by decide +kernel
theorem dL_nets_214 : decode cL_nets 214 = .ok (.iconst 1, 1) := by decide +kernel
theorem dL_nets_215 : decode cL_nets 215 = .ok (.iconst 0, 1) := by decide +kernel
theorem dL_nets_216 : decode cL_nets 216 = .ok (.iconst 4, 1) := by decide +kernel
theorem dL_nets_217 : decode cL_nets 217 = .ok (.iconst 0, 1) := by decide +kernel
theorem dL_nets_218 : decode cL_nets 218 = .ok (.iconst 0, 1) := by decide +kernel
theorem dL_nets_219 : decode cL_nets 219 = .ok (.invokestatic 117, 3) := by decide +kernel
theorem dL_nets_222 : decode cL_nets 222 = .ok (.ldc2_w 106, 3) := by decide +kernel
theorem dL_nets_225 : decode cL_nets 225 = .ok (.lcmp, 1) := by decide +kernel
theorem dL_nets_226 : decode cL_nets 226 = .ok (.ifCond .ne 19, 3) := by decide +kernel
theorem dL_nets_229 : decode cL_nets 229 = .ok (.aload_n 0, 1) := by decide +kernel
theorem dL_nets_230 : decode cL_nets 230 = .ok (.iconst 1, 1) := by decide +kernel
theorem dL_nets_231 : decode cL_nets 231 = .ok (.iconst 3, 1) := by decide +kernel
theorem dL_nets_232 : decode cL_nets 232 = .ok (.iconst 4, 1) := by decide +kernel
theorem dL_nets_233 : decode cL_nets 233 = .ok (.iconst 0, 1) := by decide +kernel
theorem dL_nets_234 : decode cL_nets 234 = .ok (.iconst 0, 1) := by decide +kernel
theorem dL_nets_235 : decode cL_nets 235 = .ok (.invokestatic 117, 3) := by decide +kernel
theorem dL_nets_238 : decode cL_nets 238 = .ok (.ldc2_w 106, 3) := by decide +kernel
theorem dL_nets_241 : decode cL_nets 241 = .ok (.lcmp, 1) := by decide +kernel
theorem dL_nets_242 : decode cL_nets 242 = .ok (.ifCond .eq 5, 3) := by decide +kernel
theorem dL_nets_245 : decode cL_nets 245 = .ok (.iconst 0, 1) := by decide +kernel
theorem dL_nets_246 : decode cL_nets 246 = .ok (.ireturn, 1) := by decide +kernel
theorem dL_nets_247 : decode cL_nets 247 = .ok (.aload_n 0, 1) := by decide +kernel
theorem dL_nets_248 : decode cL_nets 248 = .ok (.iconst 0, 1) := by decide +kernel
theorem dL_nets_249 : decode cL_nets 249 = .ok (.iconst 1, 1) := by decide +kernel
theorem dL_nets_250 : decode cL_nets 250 = .ok (.invokevirtual 13, 3) := by decide +kernel
theorem dL_nets_253 : decode cL_nets 253 = .ok (.sipush 304, 3) := by decide +kernel
theorem dL_nets_256 : decode cL_nets 256 = .ok (.if_icmp .ne 182, 3) := by decide +kernel
theorem dL_nets_259 : decode cL_nets 259 = .ok (.aload_n 0, 1) := by decide +kernel
theorem dL_nets_260 : decode cL_nets 260 = .ok (.iconst 5, 1) := by decide +kernel
theorem dL_nets_261 : decode cL_nets 261 = .ok (.iconst 3, 1) := by decide +kernel
theorem dL_nets_262 : decode cL_nets 262 = .ok (.iconst 4, 1) := by decide +kernel
theorem dL_nets_263 : decode cL_nets 263 = .ok (.invokestatic 131, 3) := by decide +kernel
theorem dL_nets_266 : decode cL_nets 266 = .ok (.ifCond .eq 172, 3) := by decide +kernel
theorem dL_nets_269 : decode cL_nets 269 = .ok (.aload_n 0, 1) := by decide +kernel
theorem dL_nets_270 : decode cL_nets 270 = .ok (.iconst 0, 1) := by decide +kernel
theorem dL_nets_271 : decode cL_nets 271 = .ok (.iconst 0, 1) := by decide +kernel
theorem dL_nets_272 : decode cL_nets 272 = .ok (.iconst 3, 1) := by decide +kernel
theorem dL_nets_273 : decode cL_nets 273 = .ok (.iconst 4, 1) := by decide +kernel
theorem dL_nets_274 : decode cL_nets 274 = .ok (.invokestatic 134, 3) := by decide +kernel
theorem dL_nets_277 : decode cL_nets 277 = .ok (.ifCond .eq 161, 3) := by decide +kernel
theorem dL_nets_280 : decode cL_nets 280 = .ok (.aload_n 0, 1) := by decide +kernel
theorem dL_nets_281 : decode cL_nets 281 = .ok (.iconst 1, 1) := by decide +kernel
theorem dL_nets_282 : decode cL_nets 282 = .ok (.iconst 1, 1) := by decide +kernel
theorem dL_nets_283 : decode cL_nets 283 = .ok (.iconst 4, 1) := by decide +kernel
theorem dL_nets_284 : decode cL_nets 284 = .ok (.iconst 3, 1) := by decide +kernel
theorem dL_nets_285 : decode cL_nets 285 = .ok (.invokestatic 134, 3) := by decide +kernel
theorem dL_nets_288 : decode cL_nets 288 = .ok (.ifCond .eq 150, 3) := by decide +kernel
theorem dL_nets_291 : decode cL_nets 291 = .ok (.aload_n 0, 1) := by decide +kernel
theorem dL_nets_292 : decode cL_nets 292 = .ok (.iconst 0, 1) := by decide +kernel
theorem dL_nets_293 : decode cL_nets 293 = .ok (.sipush 432, 3) := by decide +kernel
theorem dL_nets_296 : decode cL_nets 296 = .ok (.iconst 3, 1) := by decide +kernel
theorem dL_nets_297 : decode cL_nets 297 = .ok (.invokestatic 138, 3) := by decide +kernel
theorem dL_nets_300 : decode cL_nets 300 = .ok (.ifCond .eq 138, 3) := by decide +kernel
theorem dL_nets_303 : decode cL_nets 303 = .ok (.aload_n 0, 1) := by decide +kernel
theorem dL_nets_304 : decode cL_nets 304 = .ok (.iconst 3, 1) := by decide +kernel
theorem dL_nets_305 : decode cL_nets 305 = .ok (.sipush 4120, 3) := by decide +kernel
theorem dL_nets_308 : decode cL_nets 308 = .ok (.iconst 4, 1) := by decide +kernel
theorem dL_nets_309 : decode cL_nets 309 = .ok (.invokestatic 138, 3) := by decide +kernel
theorem dL_nets_312 : decode cL_nets 312 = .ok (.ifCond .eq 126, 3) := by decide +kernel
theorem dL_nets_315 : decode cL_nets 315 = .ok (.aload_n 0, 1) := by decide +kernel
theorem dL_nets_316 : decode cL_nets 316 = .ok (.iconst 1, 1) := by decide +kernel
theorem dL_nets_317 : decode cL_nets 317 = .ok (.iconst 0, 1) := by decide +kernel
theorem dL_nets_318 : decode cL_nets 318 = .ok (.iconst 1, 1) := by decide +kernel
theorem dL_nets_319 : decode cL_nets 319 = .ok (.iconst 0, 1) := by decide +kernel
theorem dL_nets_320 : decode cL_nets 320 = .ok (.iconst 0, 1) := by decide +kernel
theorem dL_nets_321 : decode cL_nets 321 = .ok (.invokestatic 117, 3) := by decide +kernel
theorem dL_nets_324 : decode cL_nets 324 = .ok (.ldc2_w 106, 3) := by decide +kernel
theorem dL_nets_327 : decode cL_nets 327 = .ok (.lcmp, 1) := by decide +kernel
theorem dL_nets_328 : decode cL_nets 328 = .ok (.ifCond .ne 110, 3) := by decide +kernel
theorem dL_nets_331 : decode cL_nets 331 = .ok (.aload_n 0, 1) := by decide +kernel
theorem dL_nets_332 : decode cL_nets 332 = .ok (.iconst 4, 1) := by decide +kernel
theorem dL_nets_333 : decode cL_nets 333 = .ok (.iconst 3, 1) := by decide +kernel
theorem dL_nets_334 : decode cL_nets 334 = .ok (.invokevirtual 13, 3) := by decide +kernel
theorem dL_nets_337 : decode cL_nets 337 = .ok (.iconst 1, 1) := by decide +kernel
theorem dL_nets_338 : decode cL_nets 338 = .ok (.if_icmp .ne 100, 3) := by decide +kernel
theorem dL_nets_341 : decode cL_nets 341 = .ok (.aload_n 0, 1) := by decide +kernel
theorem dL_nets_342 : decode cL_nets 342 = .ok (.iconst 5, 1) := by decide +kernel
theorem dL_nets_343 : decode cL_nets 343 = .ok (.iconst 3, 1) := by decide +kernel
theorem dL_nets_344 : decode cL_nets 344 = .ok (.iconst 4, 1) := by decide +kernel
theorem dL_nets_345 : decode cL_nets 345 = .ok (.invokestatic 131, 3) := by decide +kernel
theorem dL_nets_348 : decode cL_nets 348 = .ok (.ifCond .eq 90, 3) := by decide +kernel
theorem dL_nets_351 : decode cL_nets 351 = .ok (.aload_n 0, 1) := by decide +kernel
theorem dL_nets_352 : decode cL_nets 352 = .ok (.iconst 0, 1) := by decide +kernel
theorem dL_nets_353 : decode cL_nets 353 = .ok (.iconst 0, 1) := by decide +kernel
theorem dL_nets_354 : decode cL_nets 354 = .ok (.iconst 3, 1) := by decide +kernel
theorem dL_nets_355 : decode cL_nets 355 = .ok (.iconst 1, 1) := by decide +kernel
theorem dL_nets_356 : decode cL_nets 356 = .ok (.invokestatic 134, 3) := by decide +kernel
theorem dL_nets_359 : decode cL_nets 359 = .ok (.ifCond .eq 79, 3) := by decide +kernel
theorem dL_nets_362 : decode cL_nets 362 = .ok (.aload_n 0, 1) := by decide +kernel
theorem dL_nets_363 : decode cL_nets 363 = .ok (.iconst 1, 1) := by decide +kernel
theorem dL_nets_364 : decode cL_nets 364 = .ok (.iconst 0, 1) := by decide +kernel
theorem dL_nets_365 : decode cL_nets 365 = .ok (.iconst 1, 1) := by decide +kernel
theorem dL_nets_366 : decode cL_nets 366 = .ok (.iconst 4, 1) := by decide +kernel
theorem dL_nets_367 : decode cL_nets 367 = .ok (.invokestatic 134, 3) := by decide +kernel
theorem dL_nets_370 : decode cL_nets 370 = .ok (.ifCond .eq 68, 3) := by decide +kernel
theorem dL_nets_373 : decode cL_nets 373 = .ok (.aload_n 0, 1) := by decide +kernel
theorem dL_nets_374 : decode cL_nets 374 = .ok (.iconst 0, 1) := by decide +kernel
theorem dL_nets_375 : decode cL_nets 375 = .ok (.sipush 3241, 3) := by decide +kernel
theorem dL_nets_378 : decode cL_nets 378 = .ok (.iconst 4, 1) := by decide +kernel
theorem dL_nets_379 : decode cL_nets 379 = .ok (.invokestatic 138, 3) := by decide +kernel
theorem dL_nets_382 : decode cL_nets 382 = .ok (.ifCond .eq 56, 3) := by decide +kernel
theorem dL_nets_385 : decode cL_nets 385 = .ok (.aload_n 0, 1) := by decide +kernel
theorem dL_nets_386 : decode cL_nets 386 = .ok (.iconst 1, 1) := by decide +kernel
theorem dL_nets_387 : decode cL_nets 387 = .ok (.invokevirtual 7, 3) := by decide +kernel
theorem dL_nets_390 : decode cL_nets 390 = .ok (.iconst 5, 1) := by decide +kernel
theorem dL_nets_391 : decode cL_nets 391 = .ok (.if_icmp .ne 47, 3) := by decide +kernel
theorem dL_nets_394 : decode cL_nets 394 = .ok (.aload_n 0, 1) := by decide +kernel
theorem dL_nets_395 : decode cL_nets 395 = .ok (.iconst 1, 1) := by decide +kernel
theorem dL_nets_396 : decode cL_nets 396 = .ok (.iconst 0, 1) := by decide +kernel
theorem dL_nets_397 : decode cL_nets 397 = .ok (.iconst 1, 1) := by decide +kernel
theorem dL_nets_398 : decode cL_nets 398 = .ok (.iconst 5, 1) := by decide +kernel
theorem dL_nets_399 : decode cL_nets 399 = .ok (.invokestatic 134, 3) := by decide +kernel
theorem dL_nets_402 : decode cL_nets 402 = .ok (.ifCond .eq 36, 3) := by decide +kernel
theorem dL_nets_405 : decode cL_nets 405 = .ok (.aload_n 0, 1) := by decide +kernel
theorem dL_nets_406 : decode cL_nets 406 = .ok (.bipush 6, 2) := by decide +kernel
theorem dL_nets_408 : decode cL_nets 408 = .ok (.iconst 1, 1) := by decide +kernel
theorem dL_nets_409 : decode cL_nets 409 = .ok (.iconst 4, 1) := by decide +kernel
theorem dL_nets_410 : decode cL_nets 410 = .ok (.iconst 5, 1) := by decide +kernel
theorem dL_nets_411 : decode cL_nets 411 = .ok (.invokestatic 134, 3) := by decide +kernel
theorem dL_nets_414 : decode cL_nets 414 = .ok (.ifCond .eq 24, 3) := by decide +kernel
theorem dL_nets_417 : decode cL_nets 417 = .ok (.aload_n 0, 1) := by decide +kernel
theorem dL_nets_418 : decode cL_nets 418 = .ok (.bipush 7, 2) := by decide +kernel
theorem dL_nets_420 : decode cL_nets 420 = .ok (.iconst 0, 1) := by decide +kernel
theorem dL_nets_421 : decode cL_nets 421 = .ok (.iconst 5, 1) := by decide +kernel
theorem dL_nets_422 : decode cL_nets 422 = .ok (.iconst 4, 1) := by decide +kernel
theorem dL_nets_423 : decode cL_nets 423 = .ok (.invokestatic 134, 3) := by decide +kernel
theorem dL_nets_426 : decode cL_nets 426 = .ok (.ifCond .eq 12, 3) := by decide +kernel
theorem dL_nets_429 : decode cL_nets 429 = .ok (.aload_n 0, 1) := by decide +kernel
theorem dL_nets_430 : decode cL_nets 430 = .ok (.iconst 4, 1) := by decide +kernel
theorem dL_nets_431 : decode cL_nets 431 = .ok (.invokevirtual 23, 3) := by decide +kernel
theorem dL_nets_434 : decode cL_nets 434 = .ok (.iconst 5, 1) := by decide +kernel
theorem dL_nets_435 : decode cL_nets 435 = .ok (.if_icmp .eq 5, 3) := by decide +kernel
theorem dL_nets_438 : decode cL_nets 438 = .ok (.iconst 0, 1) := by decide +kernel
theorem dL_nets_439 : decode cL_nets 439 = .ok (.ireturn, 1) := by decide +kernel
theorem dL_nets_440 : decode cL_nets 440 = .ok (.bipush 6, 2) := by decide +kernel
theorem dL_nets_442 : decode cL_nets 442 = .ok (.istore_n 1, 1) := by decide +kernel
theorem dL_nets_443 : decode cL_nets 443 = .ok (.iload_n 1, 1) := by decide +kernel
theorem dL_nets_444 : decode cL_nets 444 = .ok (.bipush 17, 2) := by decide +kernel
theorem dL_nets_446 : decode cL_nets 446 = .ok (.if_icmp .ge 39, 3) := by decide +kernel
theorem dL_nets_449 : decode cL_nets 449 = .ok (.aload_n 0, 1) := by decide +kernel
