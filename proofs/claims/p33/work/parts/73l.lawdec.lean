theorem dL_networks_89 : decode cL_networks 89 = .ok (.ifCond .eq 199, 3) := by decide +kernel
theorem dL_networks_92 : decode cL_networks 92 = .ok (.aload_n 0, 1) := by decide +kernel
theorem dL_networks_93 : decode cL_networks 93 = .ok (.iconst 1, 1) := by decide +kernel
theorem dL_networks_94 : decode cL_networks 94 = .ok (.iconst 0, 1) := by decide +kernel
theorem dL_networks_95 : decode cL_networks 95 = .ok (.iconst 2, 1) := by decide +kernel
theorem dL_networks_96 : decode cL_networks 96 = .ok (.bipush (-2), 2) := by decide +kernel
theorem dL_networks_98 : decode cL_networks 98 = .ok (.iconst 1, 1) := by decide +kernel
theorem dL_networks_99 : decode cL_networks 99 = .ok (.iconst (-1), 1) := by decide +kernel
theorem dL_networks_100 : decode cL_networks 100 = .ok (.invokestatic 244, 3) := by decide +kernel
theorem dL_networks_103 : decode cL_networks 103 = .ok (.ifCond .eq 185, 3) := by decide +kernel
theorem dL_networks_106 : decode cL_networks 106 = .ok (.aload_n 0, 1) := by decide +kernel
theorem dL_networks_107 : decode cL_networks 107 = .ok (.iconst 2, 1) := by decide +kernel
theorem dL_networks_108 : decode cL_networks 108 = .ok (.iconst 1, 1) := by decide +kernel
theorem dL_networks_109 : decode cL_networks 109 = .ok (.iconst 2, 1) := by decide +kernel
theorem dL_networks_110 : decode cL_networks 110 = .ok (.iconst 1, 1) := by decide +kernel
theorem dL_networks_111 : decode cL_networks 111 = .ok (.bipush (-2), 2) := by decide +kernel
theorem dL_networks_113 : decode cL_networks 113 = .ok (.iconst (-1), 1) := by decide +kernel
theorem dL_networks_114 : decode cL_networks 114 = .ok (.invokestatic 244, 3) := by decide +kernel
theorem dL_networks_117 : decode cL_networks 117 = .ok (.ifCond .eq 171, 3) := by decide +kernel
theorem dL_networks_120 : decode cL_networks 120 = .ok (.aload_n 0, 1) := by decide +kernel
theorem dL_networks_121 : decode cL_networks 121 = .ok (.iconst 2, 1) := by decide +kernel
theorem dL_networks_122 : decode cL_networks 122 = .ok (.invokevirtual 87, 3) := by decide +kernel
theorem dL_networks_125 : decode cL_networks 125 = .ok (.iconst 3, 1) := by decide +kernel
theorem dL_networks_126 : decode cL_networks 126 = .ok (.if_icmp .ne 162, 3) := by decide +kernel
theorem dL_networks_129 : decode cL_networks 129 = .ok (.aload_n 0, 1) := by decide +kernel
theorem dL_networks_130 : decode cL_networks 130 = .ok (.iconst 0, 1) := by decide +kernel
theorem dL_networks_131 : decode cL_networks 131 = .ok (.iconst 1, 1) := by decide +kernel
theorem dL_networks_132 : decode cL_networks 132 = .ok (.invokevirtual 90, 3) := by decide +kernel
theorem dL_networks_135 : decode cL_networks 135 = .ok (.ifCond .ne 153, 3) := by decide +kernel
theorem dL_networks_138 : decode cL_networks 138 = .ok (.aload_n 0, 1) := by decide +kernel
theorem dL_networks_139 : decode cL_networks 139 = .ok (.iconst 1, 1) := by decide +kernel
theorem dL_networks_140 : decode cL_networks 140 = .ok (.iconst 0, 1) := by decide +kernel
theorem dL_networks_141 : decode cL_networks 141 = .ok (.invokevirtual 90, 3) := by decide +kernel
theorem dL_networks_144 : decode cL_networks 144 = .ok (.iconst 1, 1) := by decide +kernel
theorem dL_networks_145 : decode cL_networks 145 = .ok (.if_icmp .ne 143, 3) := by decide +kernel
theorem dL_networks_148 : decode cL_networks 148 = .ok (.aload_n 0, 1) := by decide +kernel
theorem dL_networks_149 : decode cL_networks 149 = .ok (.iconst 0, 1) := by decide +kernel
theorem dL_networks_150 : decode cL_networks 150 = .ok (.iconst 1, 1) := by decide +kernel
theorem dL_networks_151 : decode cL_networks 151 = .ok (.invokevirtual 90, 3) := by decide +kernel
theorem dL_networks_154 : decode cL_networks 154 = .ok (.iconst 2, 1) := by decide +kernel
theorem dL_networks_155 : decode cL_networks 155 = .ok (.if_icmp .ne 133, 3) := by decide +kernel
theorem dL_networks_158 : decode cL_networks 158 = .ok (.aload_n 0, 1) := by decide +kernel
theorem dL_networks_159 : decode cL_networks 159 = .ok (.iconst 3, 1) := by decide +kernel
theorem dL_networks_160 : decode cL_networks 160 = .ok (.invokestatic 241, 3) := by decide +kernel
theorem dL_networks_163 : decode cL_networks 163 = .ok (.ifCond .eq 125, 3) := by decide +kernel
theorem dL_networks_166 : decode cL_networks 166 = .ok (.aload_n 0, 1) := by decide +kernel
theorem dL_networks_167 : decode cL_networks 167 = .ok (.iconst 0, 1) := by decide +kernel
theorem dL_networks_168 : decode cL_networks 168 = .ok (.iconst 1, 1) := by decide +kernel
theorem dL_networks_169 : decode cL_networks 169 = .ok (.iconst 1, 1) := by decide +kernel
theorem dL_networks_170 : decode cL_networks 170 = .ok (.iconst 1, 1) := by decide +kernel
theorem dL_networks_171 : decode cL_networks 171 = .ok (.iconst (-1), 1) := by decide +kernel
theorem dL_networks_172 : decode cL_networks 172 = .ok (.iconst 1, 1) := by decide +kernel
theorem dL_networks_173 : decode cL_networks 173 = .ok (.invokestatic 244, 3) := by decide +kernel
theorem dL_networks_176 : decode cL_networks 176 = .ok (.ifCond .eq 112, 3) := by decide +kernel
theorem dL_networks_179 : decode cL_networks 179 = .ok (.aload_n 0, 1) := by decide +kernel
theorem dL_networks_180 : decode cL_networks 180 = .ok (.iconst 4, 1) := by decide +kernel
theorem dL_networks_181 : decode cL_networks 181 = .ok (.invokevirtual 87, 3) := by decide +kernel
theorem dL_networks_184 : decode cL_networks 184 = .ok (.iconst 2, 1) := by decide +kernel
theorem dL_networks_185 : decode cL_networks 185 = .ok (.if_icmp .ne 103, 3) := by decide +kernel
theorem dL_networks_188 : decode cL_networks 188 = .ok (.aload_n 0, 1) := by decide +kernel
theorem dL_networks_189 : decode cL_networks 189 = .ok (.iconst 0, 1) := by decide +kernel
theorem dL_networks_190 : decode cL_networks 190 = .ok (.iconst 1, 1) := by decide +kernel
theorem dL_networks_191 : decode cL_networks 191 = .ok (.invokevirtual 90, 3) := by decide +kernel
theorem dL_networks_194 : decode cL_networks 194 = .ok (.ifCond .ne 94, 3) := by decide +kernel
theorem dL_networks_197 : decode cL_networks 197 = .ok (.aload_n 0, 1) := by decide +kernel
theorem dL_networks_198 : decode cL_networks 198 = .ok (.iconst 0, 1) := by decide +kernel
theorem dL_networks_199 : decode cL_networks 199 = .ok (.invokestatic 241, 3) := by decide +kernel
theorem dL_networks_202 : decode cL_networks 202 = .ok (.ifCond .eq 86, 3) := by decide +kernel
theorem dL_networks_205 : decode cL_networks 205 = .ok (.aload_n 0, 1) := by decide +kernel
theorem dL_networks_206 : decode cL_networks 206 = .ok (.bipush 25, 2) := by decide +kernel
theorem dL_networks_208 : decode cL_networks 208 = .ok (.iconst 0, 1) := by decide +kernel
theorem dL_networks_209 : decode cL_networks 209 = .ok (.iconst 1, 1) := by decide +kernel
theorem dL_networks_210 : decode cL_networks 210 = .ok (.iconst 0, 1) := by decide +kernel
theorem dL_networks_211 : decode cL_networks 211 = .ok (.iconst 0, 1) := by decide +kernel
theorem dL_networks_212 : decode cL_networks 212 = .ok (.invokestatic 117, 3) := by decide +kernel
theorem dL_networks_215 : decode cL_networks 215 = .ok (.ldc2_w 106, 3) := by decide +kernel
theorem dL_networks_218 : decode cL_networks 218 = .ok (.lcmp, 1) := by decide +kernel
theorem dL_networks_219 : decode cL_networks 219 = .ok (.ifCond .ne 69, 3) := by decide +kernel
theorem dL_networks_222 : decode cL_networks 222 = .ok (.aload_n 0, 1) := by decide +kernel
theorem dL_networks_223 : decode cL_networks 223 = .ok (.iconst 1, 1) := by decide +kernel
theorem dL_networks_224 : decode cL_networks 224 = .ok (.iconst 2, 1) := by decide +kernel
theorem dL_networks_225 : decode cL_networks 225 = .ok (.invokevirtual 90, 3) := by decide +kernel
theorem dL_networks_228 : decode cL_networks 228 = .ok (.iconst 1, 1) := by decide +kernel
theorem dL_networks_229 : decode cL_networks 229 = .ok (.if_icmp .ne 59, 3) := by decide +kernel
theorem dL_networks_232 : decode cL_networks 232 = .ok (.aload_n 0, 1) := by decide +kernel
theorem dL_networks_233 : decode cL_networks 233 = .ok (.iconst 2, 1) := by decide +kernel
theorem dL_networks_234 : decode cL_networks 234 = .ok (.iconst 3, 1) := by decide +kernel
theorem dL_networks_235 : decode cL_networks 235 = .ok (.invokevirtual 90, 3) := by decide +kernel
theorem dL_networks_238 : decode cL_networks 238 = .ok (.iconst 2, 1) := by decide +kernel
theorem dL_networks_239 : decode cL_networks 239 = .ok (.if_icmp .ne 49, 3) := by decide +kernel
theorem dL_networks_242 : decode cL_networks 242 = .ok (.aload_n 0, 1) := by decide +kernel
theorem dL_networks_243 : decode cL_networks 243 = .ok (.iconst 1, 1) := by decide +kernel
theorem dL_networks_244 : decode cL_networks 244 = .ok (.invokestatic 241, 3) := by decide +kernel
theorem dL_networks_247 : decode cL_networks 247 = .ok (.ifCond .eq 41, 3) := by decide +kernel
theorem dL_networks_250 : decode cL_networks 250 = .ok (.aload_n 0, 1) := by decide +kernel
theorem dL_networks_251 : decode cL_networks 251 = .ok (.iconst 0, 1) := by decide +kernel
theorem dL_networks_252 : decode cL_networks 252 = .ok (.iconst 3, 1) := by decide +kernel
theorem dL_networks_253 : decode cL_networks 253 = .ok (.iconst 3, 1) := by decide +kernel
theorem dL_networks_254 : decode cL_networks 254 = .ok (.iconst 1, 1) := by decide +kernel
theorem dL_networks_255 : decode cL_networks 255 = .ok (.iconst 1, 1) := by decide +kernel
theorem dL_networks_256 : decode cL_networks 256 = .ok (.iconst 1, 1) := by decide +kernel
theorem dL_networks_257 : decode cL_networks 257 = .ok (.invokestatic 244, 3) := by decide +kernel
theorem dL_networks_260 : decode cL_networks 260 = .ok (.ifCond .eq 28, 3) := by decide +kernel
theorem dL_networks_263 : decode cL_networks 263 = .ok (.aload_n 0, 1) := by decide +kernel
theorem dL_networks_264 : decode cL_networks 264 = .ok (.iconst 1, 1) := by decide +kernel
theorem dL_networks_265 : decode cL_networks 265 = .ok (.iconst 2, 1) := by decide +kernel
theorem dL_networks_266 : decode cL_networks 266 = .ok (.iconst 1, 1) := by decide +kernel
theorem dL_networks_267 : decode cL_networks 267 = .ok (.iconst 0, 1) := by decide +kernel
theorem dL_networks_268 : decode cL_networks 268 = .ok (.iconst 1, 1) := by decide +kernel
theorem dL_networks_269 : decode cL_networks 269 = .ok (.iconst 0, 1) := by decide +kernel
theorem dL_networks_270 : decode cL_networks 270 = .ok (.invokestatic 244, 3) := by decide +kernel
theorem dL_networks_273 : decode cL_networks 273 = .ok (.ifCond .eq 15, 3) := by decide +kernel
theorem dL_networks_276 : decode cL_networks 276 = .ok (.aload_n 0, 1) := by decide +kernel
theorem dL_networks_277 : decode cL_networks 277 = .ok (.iconst 0, 1) := by decide +kernel
theorem dL_networks_278 : decode cL_networks 278 = .ok (.iconst 0, 1) := by decide +kernel
theorem dL_networks_279 : decode cL_networks 279 = .ok (.iconst 0, 1) := by decide +kernel
theorem dL_networks_280 : decode cL_networks 280 = .ok (.iconst 4, 1) := by decide +kernel
theorem dL_networks_281 : decode cL_networks 281 = .ok (.iconst 3, 1) := by decide +kernel
theorem dL_networks_282 : decode cL_networks 282 = .ok (.invokestatic 127, 3) := by decide +kernel
theorem dL_networks_285 : decode cL_networks 285 = .ok (.ifCond .ne 5, 3) := by decide +kernel
theorem dL_networks_288 : decode cL_networks 288 = .ok (.iconst 0, 1) := by decide +kernel
theorem dL_networks_289 : decode cL_networks 289 = .ok (.ireturn, 1) := by decide +kernel
theorem dL_networks_290 : decode cL_networks 290 = .ok (.aload_n 0, 1) := by decide +kernel
theorem dL_networks_291 : decode cL_networks 291 = .ok (.bipush 6, 2) := by decide +kernel
theorem dL_networks_293 : decode cL_networks 293 = .ok (.invokevirtual 87, 3) := by decide +kernel
theorem dL_networks_296 : decode cL_networks 296 = .ok (.iconst 4, 1) := by decide +kernel
theorem dL_networks_297 : decode cL_networks 297 = .ok (.if_icmp .eq 5, 3) := by decide +kernel
theorem dL_networks_300 : decode cL_networks 300 = .ok (.iconst 0, 1) := by decide +kernel
theorem dL_networks_301 : decode cL_networks 301 = .ok (.ireturn, 1) := by decide +kernel
theorem dL_networks_302 : decode cL_networks 302 = .ok (.iconst 0, 1) := by decide +kernel
theorem dL_networks_303 : decode cL_networks 303 = .ok (.istore_n 1, 1) := by decide +kernel
theorem dL_networks_304 : decode cL_networks 304 = .ok (.iload_n 1, 1) := by decide +kernel
theorem dL_networks_305 : decode cL_networks 305 = .ok (.bipush 11, 2) := by decide +kernel
theorem dL_networks_307 : decode cL_networks 307 = .ok (.if_icmp .ge 56, 3) := by decide +kernel
theorem dL_networks_310 : decode cL_networks 310 = .ok (.aload_n 0, 1) := by decide +kernel
theorem dL_networks_311 : decode cL_networks 311 = .ok (.bipush 24, 2) := by decide +kernel
theorem dL_networks_313 : decode cL_networks 313 = .ok (.iload_n 1, 1) := by decide +kernel
theorem dL_networks_314 : decode cL_networks 314 = .ok (.bipush 6, 2) := by decide +kernel
theorem dL_networks_316 : decode cL_networks 316 = .ok (.irem, 1) := by decide +kernel
theorem dL_networks_317 : decode cL_networks 317 = .ok (.iload_n 1, 1) := by decide +kernel
theorem dL_networks_318 : decode cL_networks 318 = .ok (.iload_n 1, 1) := by decide +kernel
theorem dL_networks_319 : decode cL_networks 319 = .ok (.bipush 6, 2) := by decide +kernel
theorem dL_networks_321 : decode cL_networks 321 = .ok (.if_icmp .ge 7, 3) := by decide +kernel
theorem dL_networks_324 : decode cL_networks 324 = .ok (.iconst 1, 1) := by decide +kernel
theorem dL_networks_325 : decode cL_networks 325 = .ok (.goto 4, 3) := by decide +kernel
theorem dL_networks_328 : decode cL_networks 328 = .ok (.iconst 2, 1) := by decide +kernel
theorem dL_networks_329 : decode cL_networks 329 = .ok (.iadd, 1) := by decide +kernel
theorem dL_networks_330 : decode cL_networks 330 = .ok (.bipush 6, 2) := by decide +kernel
theorem dL_networks_332 : decode cL_networks 332 = .ok (.irem, 1) := by decide +kernel
theorem dL_networks_333 : decode cL_networks 333 = .ok (.iconst 0, 1) := by decide +kernel
theorem dL_networks_334 : decode cL_networks 334 = .ok (.iconst 0, 1) := by decide +kernel
theorem dL_networks_335 : decode cL_networks 335 = .ok (.invokestatic 117, 3) := by decide +kernel
theorem dL_networks_338 : decode cL_networks 338 = .ok (.iload_n 1, 1) := by decide +kernel
theorem dL_networks_339 : decode cL_networks 339 = .ok (.bipush 10, 2) := by decide +kernel
theorem dL_networks_341 : decode cL_networks 341 = .ok (.if_icmp .ge 7, 3) := by decide +kernel
theorem dL_networks_344 : decode cL_networks 344 = .ok (.iload_n 1, 1) := by decide +kernel
theorem dL_networks_345 : decode cL_networks 345 = .ok (.goto 5, 3) := by decide +kernel
theorem dL_networks_348 : decode cL_networks 348 = .ok (.ldc 140, 2) := by decide +kernel
theorem dL_networks_350 : decode cL_networks 350 = .ok (.i2l, 1) := by decide +kernel
theorem dL_networks_351 : decode cL_networks 351 = .ok (.lcmp, 1) := by decide +kernel
theorem dL_networks_352 : decode cL_networks 352 = .ok (.ifCond .eq 5, 3) := by decide +kernel
theorem dL_networks_355 : decode cL_networks 355 = .ok (.iconst 0, 1) := by decide +kernel
theorem dL_networks_356 : decode cL_networks 356 = .ok (.ireturn, 1) := by decide +kernel
theorem dL_networks_357 : decode cL_networks 357 = .ok (.iinc 1 1, 3) := by decide +kernel
theorem dL_networks_360 : decode cL_networks 360 = .ok (.goto (-56), 3) := by decide +kernel
theorem dL_networks_363 : decode cL_networks 363 = .ok (.aload_n 0, 1) := by decide +kernel
theorem dL_networks_364 : decode cL_networks 364 = .ok (.iconst 0, 1) := by decide +kernel
theorem dL_networks_365 : decode cL_networks 365 = .ok (.iconst 0, 1) := by decide +kernel
theorem dL_networks_366 : decode cL_networks 366 = .ok (.iconst 0, 1) := by decide +kernel
theorem dL_networks_367 : decode cL_networks 367 = .ok (.bipush 6, 2) := by decide +kernel
theorem dL_networks_369 : decode cL_networks 369 = .ok (.bipush 10, 2) := by decide +kernel
theorem dL_networks_371 : decode cL_networks 371 = .ok (.invokestatic 127, 3) := by decide +kernel
theorem dL_networks_374 : decode cL_networks 374 = .ok (.ifCond .ne 5, 3) := by decide +kernel
theorem dL_networks_377 : decode cL_networks 377 = .ok (.iconst 0, 1) := by decide +kernel
theorem dL_networks_378 : decode cL_networks 378 = .ok (.ireturn, 1) := by decide +kernel
theorem dL_networks_379 : decode cL_networks 379 = .ok (.aload_n 0, 1) := by decide +kernel
theorem dL_networks_380 : decode cL_networks 380 = .ok (.iconst 0, 1) := by decide +kernel
theorem dL_networks_381 : decode cL_networks 381 = .ok (.iconst 3, 1) := by decide +kernel
theorem dL_networks_382 : decode cL_networks 382 = .ok (.iconst (-1), 1) := by decide +kernel
theorem dL_networks_383 : decode cL_networks 383 = .ok (.invokevirtual 93, 3) := by decide +kernel
theorem dL_networks_386 : decode cL_networks 386 = .ok (.istore_n 1, 1) := by decide +kernel
theorem dL_networks_387 : decode cL_networks 387 = .ok (.iconst 0, 1) := by decide +kernel
theorem dL_networks_388 : decode cL_networks 388 = .ok (.istore_n 2, 1) := by decide +kernel
theorem dL_networks_389 : decode cL_networks 389 = .ok (.iconst 0, 1) := by decide +kernel
theorem dL_networks_390 : decode cL_networks 390 = .ok (.istore_n 3, 1) := by decide +kernel
theorem dL_networks_391 : decode cL_networks 391 = .ok (.iconst 0, 1) := by decide +kernel
theorem dL_networks_392 : decode cL_networks 392 = .ok (.istore 4, 2) := by decide +kernel
theorem dL_networks_394 : decode cL_networks 394 = .ok (.iload 4, 2) := by decide +kernel
theorem dL_networks_396 : decode cL_networks 396 = .ok (.bipush 10, 2) := by decide +kernel
theorem dL_networks_398 : decode cL_networks 398 = .ok (.if_icmp .ge 60, 3) := by decide +kernel
theorem dL_networks_401 : decode cL_networks 401 = .ok (.aload_n 0, 1) := by decide +kernel
theorem dL_networks_402 : decode cL_networks 402 = .ok (.iconst 0, 1) := by decide +kernel
theorem dL_networks_403 : decode cL_networks 403 = .ok (.iconst 3, 1) := by decide +kernel
theorem dL_networks_404 : decode cL_networks 404 = .ok (.iload 4, 2) := by decide +kernel
theorem dL_networks_406 : decode cL_networks 406 = .ok (.invokevirtual 93, 3) := by decide +kernel
theorem dL_networks_409 : decode cL_networks 409 = .ok (.istore 5, 2) := by decide +kernel
theorem dL_networks_411 : decode cL_networks 411 = .ok (.iload_n 3, 1) := by decide +kernel
theorem dL_networks_412 : decode cL_networks 412 = .ok (.iload 5, 2) := by decide +kernel
theorem dL_networks_414 : decode cL_networks 414 = .ok (.iload 5, 2) := by decide +kernel
theorem dL_networks_416 : decode cL_networks 416 = .ok (.imul, 1) := by decide +kernel
theorem dL_networks_417 : decode cL_networks 417 = .ok (.iadd, 1) := by decide +kernel
theorem dL_networks_418 : decode cL_networks 418 = .ok (.istore_n 3, 1) := by decide +kernel
theorem dL_networks_419 : decode cL_networks 419 = .ok (.iload_n 2, 1) := by decide +kernel
theorem dL_networks_420 : decode cL_networks 420 = .ok (.iload 4, 2) := by decide +kernel
theorem dL_networks_422 : decode cL_networks 422 = .ok (.ifCond .eq 10, 3) := by decide +kernel
theorem dL_networks_425 : decode cL_networks 425 = .ok (.iload 4, 2) := by decide +kernel
theorem dL_networks_427 : decode cL_networks 427 = .ok (.bipush 6, 2) := by decide +kernel
theorem dL_networks_429 : decode cL_networks 429 = .ok (.if_icmp .ne 8, 3) := by decide +kernel
theorem dL_networks_432 : decode cL_networks 432 = .ok (.iload 5, 2) := by decide +kernel
theorem dL_networks_434 : decode cL_networks 434 = .ok (.goto 16, 3) := by decide +kernel
theorem dL_networks_437 : decode cL_networks 437 = .ok (.iload 4, 2) := by decide +kernel
theorem dL_networks_439 : decode cL_networks 439 = .ok (.iconst 5, 1) := by decide +kernel
theorem dL_networks_440 : decode cL_networks 440 = .ok (.if_icmp .ne 9, 3) := by decide +kernel
theorem dL_networks_443 : decode cL_networks 443 = .ok (.iload 5, 2) := by decide +kernel
theorem dL_networks_445 : decode cL_networks 445 = .ok (.ineg, 1) := by decide +kernel
theorem dL_networks_446 : decode cL_networks 446 = .ok (.goto 4, 3) := by decide +kernel
theorem dL_networks_449 : decode cL_networks 449 = .ok (.iconst 0, 1) := by decide +kernel
theorem dL_networks_450 : decode cL_networks 450 = .ok (.iadd, 1) := by decide +kernel
theorem dL_networks_451 : decode cL_networks 451 = .ok (.istore_n 2, 1) := by decide +kernel
theorem dL_networks_452 : decode cL_networks 452 = .ok (.iinc 4 1, 3) := by decide +kernel
theorem dL_networks_455 : decode cL_networks 455 = .ok (.goto (-61), 3) := by decide +kernel
theorem dL_networks_458 : decode cL_networks 458 = .ok (.aload_n 0, 1) := by decide +kernel
theorem dL_networks_459 : decode cL_networks 459 = .ok (.invokevirtual 109, 3) := by decide +kernel
theorem dL_networks_462 : decode cL_networks 462 = .ok (.ifCond .le 43, 3) := by decide +kernel
theorem dL_networks_465 : decode cL_networks 465 = .ok (.iload_n 3, 1) := by decide +kernel
theorem dL_networks_466 : decode cL_networks 466 = .ok (.iload_n 1, 1) := by decide +kernel
theorem dL_networks_467 : decode cL_networks 467 = .ok (.aload_n 0, 1) := by decide +kernel
theorem dL_networks_468 : decode cL_networks 468 = .ok (.invokevirtual 109, 3) := by decide +kernel
theorem dL_networks_471 : decode cL_networks 471 = .ok (.imul, 1) := by decide +kernel
theorem dL_networks_472 : decode cL_networks 472 = .ok (.if_icmp .ne 33, 3) := by decide +kernel
theorem dL_networks_475 : decode cL_networks 475 = .ok (.iload_n 2, 1) := by decide +kernel
theorem dL_networks_476 : decode cL_networks 476 = .ok (.aload_n 0, 1) := by decide +kernel
theorem dL_networks_477 : decode cL_networks 477 = .ok (.invokevirtual 109, 3) := by decide +kernel
theorem dL_networks_480 : decode cL_networks 480 = .ok (.if_icmp .ne 25, 3) := by decide +kernel
theorem dL_networks_483 : decode cL_networks 483 = .ok (.aload_n 0, 1) := by decide +kernel
theorem dL_networks_484 : decode cL_networks 484 = .ok (.iconst 2, 1) := by decide +kernel
theorem dL_networks_485 : decode cL_networks 485 = .ok (.invokevirtual 87, 3) := by decide +kernel
theorem dL_networks_488 : decode cL_networks 488 = .ok (.bipush 6, 2) := by decide +kernel
theorem dL_networks_490 : decode cL_networks 490 = .ok (.if_icmp .ne 15, 3) := by decide +kernel
theorem dL_networks_493 : decode cL_networks 493 = .ok (.aload_n 0, 1) := by decide +kernel
theorem dL_networks_494 : decode cL_networks 494 = .ok (.iconst 0, 1) := by decide +kernel
theorem dL_networks_495 : decode cL_networks 495 = .ok (.invokestatic 241, 3) := by decide +kernel
theorem dL_networks_498 : decode cL_networks 498 = .ok (.ifCond .eq 7, 3) := by decide +kernel
theorem dL_networks_501 : decode cL_networks 501 = .ok (.iconst 1, 1) := by decide +kernel
theorem dL_networks_502 : decode cL_networks 502 = .ok (.goto 4, 3) := by decide +kernel
theorem dL_networks_505 : decode cL_networks 505 = .ok (.iconst 0, 1) := by decide +kernel
theorem dL_networks_506 : decode cL_networks 506 = .ok (.ireturn, 1) := by decide +kernel
theorem dL_law_0 : decode cL_law 0 = .ok (.invokestatic 248, 3) := by decide +kernel
theorem dL_law_3 : decode cL_law 3 = .ok (.ifCond .ne 5, 3) := by decide +kernel
theorem dL_law_6 : decode cL_law 6 = .ok (.iconst 0, 1) := by decide +kernel
theorem dL_law_7 : decode cL_law 7 = .ok (.ireturn, 1) := by decide +kernel
theorem dL_law_8 : decode cL_law 8 = .ok (.new 8, 3) := by decide +kernel
theorem dL_law_11 : decode cL_law 11 = .ok (.dup, 1) := by decide +kernel
theorem dL_law_12 : decode cL_law 12 = .ok (.invokespecial 126, 3) := by decide +kernel
theorem dL_law_15 : decode cL_law 15 = .ok (.astore_n 1, 1) := by decide +kernel
theorem dL_law_16 : decode cL_law 16 = .ok (.iconst 0, 1) := by decide +kernel
theorem dL_law_17 : decode cL_law 17 = .ok (.istore_n 2, 1) := by decide +kernel
theorem dL_law_18 : decode cL_law 18 = .ok (.iconst 0, 1) := by decide +kernel
theorem dL_law_19 : decode cL_law 19 = .ok (.istore_n 3, 1) := by decide +kernel
theorem dL_law_20 : decode cL_law 20 = .ok (.iconst 0, 1) := by decide +kernel
theorem dL_law_21 : decode cL_law 21 = .ok (.istore 4, 2) := by decide +kernel
theorem dL_law_23 : decode cL_law 23 = .ok (.iconst 2, 1) := by decide +kernel
theorem dL_law_24 : decode cL_law 24 = .ok (.istore 5, 2) := by decide +kernel
theorem dL_law_26 : decode cL_law 26 = .ok (.iconst 0, 1) := by decide +kernel
theorem dL_law_27 : decode cL_law 27 = .ok (.istore 6, 2) := by decide +kernel
theorem dL_law_29 : decode cL_law 29 = .ok (.iconst 0, 1) := by decide +kernel
theorem dL_law_30 : decode cL_law 30 = .ok (.istore 7, 2) := by decide +kernel
theorem dL_law_32 : decode cL_law 32 = .ok (.iload 7, 2) := by decide +kernel
theorem dL_law_34 : decode cL_law 34 = .ok (.bipush 70, 2) := by decide +kernel
theorem dL_law_36 : decode cL_law 36 = .ok (.if_icmp .ge 1202, 3) := by decide +kernel
theorem dL_law_39 : decode cL_law 39 = .ok (.aload_n 0, 1) := by decide +kernel
theorem dL_law_40 : decode cL_law 40 = .ok (.arraylength, 1) := by decide +kernel
theorem dL_law_41 : decode cL_law 41 = .ok (.ifCond .ne 11, 3) := by decide +kernel
theorem dL_law_44 : decode cL_law 44 = .ok (.bipush 107, 2) := by decide +kernel
theorem dL_law_46 : decode cL_law 46 = .ok (.iload 7, 2) := by decide +kernel
theorem dL_law_48 : decode cL_law 48 = .ok (.imul, 1) := by decide +kernel
theorem dL_law_49 : decode cL_law 49 = .ok (.goto 13, 3) := by decide +kernel
theorem dL_law_52 : decode cL_law 52 = .ok (.aload_n 0, 1) := by decide +kernel
theorem dL_law_53 : decode cL_law 53 = .ok (.iload 7, 2) := by decide +kernel
theorem dL_law_55 : decode cL_law 55 = .ok (.aload_n 0, 1) := by decide +kernel
