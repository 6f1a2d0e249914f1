theorem dL_nets_450 : decode cL_nets 450 = .ok (.iconst 0, 1) := by decide +kernel
theorem dL_nets_451 : decode cL_nets 451 = .ok (.iload_n 1, 1) := by decide +kernel
theorem dL_nets_452 : decode cL_nets 452 = .ok (.iconst 5, 1) := by decide +kernel
theorem dL_nets_453 : decode cL_nets 453 = .ok (.irem, 1) := by decide +kernel
theorem dL_nets_454 : decode cL_nets 454 = .ok (.iconst 0, 1) := by decide +kernel
theorem dL_nets_455 : decode cL_nets 455 = .ok (.iconst 0, 1) := by decide +kernel
theorem dL_nets_456 : decode cL_nets 456 = .ok (.iconst 0, 1) := by decide +kernel
theorem dL_nets_457 : decode cL_nets 457 = .ok (.invokestatic 117, 3) := by decide +kernel
theorem dL_nets_460 : decode cL_nets 460 = .ok (.iload_n 1, 1) := by decide +kernel
theorem dL_nets_461 : decode cL_nets 461 = .ok (.bipush 16, 2) := by decide +kernel
theorem dL_nets_463 : decode cL_nets 463 = .ok (.if_icmp .ge 7, 3) := by decide +kernel
theorem dL_nets_466 : decode cL_nets 466 = .ok (.iload_n 1, 1) := by decide +kernel
theorem dL_nets_467 : decode cL_nets 467 = .ok (.goto 5, 3) := by decide +kernel
theorem dL_nets_470 : decode cL_nets 470 = .ok (.ldc 140, 2) := by decide +kernel
theorem dL_nets_472 : decode cL_nets 472 = .ok (.i2l, 1) := by decide +kernel
theorem dL_nets_473 : decode cL_nets 473 = .ok (.lcmp, 1) := by decide +kernel
theorem dL_nets_474 : decode cL_nets 474 = .ok (.ifCond .eq 5, 3) := by decide +kernel
theorem dL_nets_477 : decode cL_nets 477 = .ok (.iconst 0, 1) := by decide +kernel
theorem dL_nets_478 : decode cL_nets 478 = .ok (.ireturn, 1) := by decide +kernel
theorem dL_nets_479 : decode cL_nets 479 = .ok (.iinc 1 1, 3) := by decide +kernel
theorem dL_nets_482 : decode cL_nets 482 = .ok (.goto (-39), 3) := by decide +kernel
theorem dL_nets_485 : decode cL_nets 485 = .ok (.aload_n 0, 1) := by decide +kernel
theorem dL_nets_486 : decode cL_nets 486 = .ok (.iconst 2, 1) := by decide +kernel
theorem dL_nets_487 : decode cL_nets 487 = .ok (.invokevirtual 23, 3) := by decide +kernel
theorem dL_nets_490 : decode cL_nets 490 = .ok (.bipush 28, 2) := by decide +kernel
theorem dL_nets_492 : decode cL_nets 492 = .ok (.if_icmp .ne 65, 3) := by decide +kernel
theorem dL_nets_495 : decode cL_nets 495 = .ok (.aload_n 0, 1) := by decide +kernel
theorem dL_nets_496 : decode cL_nets 496 = .ok (.iconst 1, 1) := by decide +kernel
theorem dL_nets_497 : decode cL_nets 497 = .ok (.invokevirtual 23, 3) := by decide +kernel
theorem dL_nets_500 : decode cL_nets 500 = .ok (.bipush 42, 2) := by decide +kernel
theorem dL_nets_502 : decode cL_nets 502 = .ok (.if_icmp .ne 55, 3) := by decide +kernel
theorem dL_nets_505 : decode cL_nets 505 = .ok (.aload_n 0, 1) := by decide +kernel
theorem dL_nets_506 : decode cL_nets 506 = .ok (.iconst 0, 1) := by decide +kernel
theorem dL_nets_507 : decode cL_nets 507 = .ok (.iconst 0, 1) := by decide +kernel
theorem dL_nets_508 : decode cL_nets 508 = .ok (.iconst 0, 1) := by decide +kernel
theorem dL_nets_509 : decode cL_nets 509 = .ok (.iconst 2, 1) := by decide +kernel
theorem dL_nets_510 : decode cL_nets 510 = .ok (.iconst 0, 1) := by decide +kernel
theorem dL_nets_511 : decode cL_nets 511 = .ok (.invokestatic 127, 3) := by decide +kernel
theorem dL_nets_514 : decode cL_nets 514 = .ok (.ifCond .eq 43, 3) := by decide +kernel
theorem dL_nets_517 : decode cL_nets 517 = .ok (.invokestatic 141, 3) := by decide +kernel
theorem dL_nets_520 : decode cL_nets 520 = .ok (.ifCond .eq 37, 3) := by decide +kernel
theorem dL_nets_523 : decode cL_nets 523 = .ok (.invokestatic 145, 3) := by decide +kernel
theorem dL_nets_526 : decode cL_nets 526 = .ok (.ifCond .eq 31, 3) := by decide +kernel
theorem dL_nets_529 : decode cL_nets 529 = .ok (.invokestatic 148, 3) := by decide +kernel
theorem dL_nets_532 : decode cL_nets 532 = .ok (.ifCond .eq 25, 3) := by decide +kernel
theorem dL_nets_535 : decode cL_nets 535 = .ok (.invokestatic 151, 3) := by decide +kernel
theorem dL_nets_538 : decode cL_nets 538 = .ok (.ifCond .eq 19, 3) := by decide +kernel
theorem dL_nets_541 : decode cL_nets 541 = .ok (.invokestatic 154, 3) := by decide +kernel
theorem dL_nets_544 : decode cL_nets 544 = .ok (.ifCond .eq 13, 3) := by decide +kernel
theorem dL_nets_547 : decode cL_nets 547 = .ok (.invokestatic 157, 3) := by decide +kernel
theorem dL_nets_550 : decode cL_nets 550 = .ok (.ifCond .eq 7, 3) := by decide +kernel
theorem dL_nets_553 : decode cL_nets 553 = .ok (.iconst 1, 1) := by decide +kernel
theorem dL_nets_554 : decode cL_nets 554 = .ok (.goto 4, 3) := by decide +kernel
theorem dL_nets_557 : decode cL_nets 557 = .ok (.iconst 0, 1) := by decide +kernel
theorem dL_nets_558 : decode cL_nets 558 = .ok (.ireturn, 1) := by decide +kernel
theorem dL_disks_0 : decode cL_disks 0 = .ok (.new 8, 3) := by decide +kernel
theorem dL_disks_3 : decode cL_disks 3 = .ok (.dup, 1) := by decide +kernel
theorem dL_disks_4 : decode cL_disks 4 = .ok (.invokespecial 126, 3) := by decide +kernel
theorem dL_disks_7 : decode cL_disks 7 = .ok (.astore_n 0, 1) := by decide +kernel
theorem dL_disks_8 : decode cL_disks 8 = .ok (.aload_n 0, 1) := by decide +kernel
theorem dL_disks_9 : decode cL_disks 9 = .ok (.invokevirtual 160, 3) := by decide +kernel
theorem dL_disks_12 : decode cL_disks 12 = .ok (.ifCond .ne 214, 3) := by decide +kernel
theorem dL_disks_15 : decode cL_disks 15 = .ok (.aload_n 0, 1) := by decide +kernel
theorem dL_disks_16 : decode cL_disks 16 = .ok (.bipush (-15), 2) := by decide +kernel
theorem dL_disks_18 : decode cL_disks 18 = .ok (.iconst 0, 1) := by decide +kernel
theorem dL_disks_19 : decode cL_disks 19 = .ok (.bipush 15, 2) := by decide +kernel
theorem dL_disks_21 : decode cL_disks 21 = .ok (.invokevirtual 26, 3) := by decide +kernel
theorem dL_disks_24 : decode cL_disks 24 = .ok (.ifCond .ne 202, 3) := by decide +kernel
theorem dL_disks_27 : decode cL_disks 27 = .ok (.aload_n 0, 1) := by decide +kernel
theorem dL_disks_28 : decode cL_disks 28 = .ok (.bipush 15, 2) := by decide +kernel
theorem dL_disks_30 : decode cL_disks 30 = .ok (.iconst 0, 1) := by decide +kernel
theorem dL_disks_31 : decode cL_disks 31 = .ok (.bipush 15, 2) := by decide +kernel
theorem dL_disks_33 : decode cL_disks 33 = .ok (.invokevirtual 26, 3) := by decide +kernel
theorem dL_disks_36 : decode cL_disks 36 = .ok (.iconst 1, 1) := by decide +kernel
theorem dL_disks_37 : decode cL_disks 37 = .ok (.if_icmp .ne 189, 3) := by decide +kernel
theorem dL_disks_40 : decode cL_disks 40 = .ok (.aload_n 0, 1) := by decide +kernel
theorem dL_disks_41 : decode cL_disks 41 = .ok (.iconst 0, 1) := by decide +kernel
theorem dL_disks_42 : decode cL_disks 42 = .ok (.bipush 20, 2) := by decide +kernel
theorem dL_disks_44 : decode cL_disks 44 = .ok (.bipush 10, 2) := by decide +kernel
theorem dL_disks_46 : decode cL_disks 46 = .ok (.invokevirtual 26, 3) := by decide +kernel
theorem dL_disks_49 : decode cL_disks 49 = .ok (.iconst 2, 1) := by decide +kernel
theorem dL_disks_50 : decode cL_disks 50 = .ok (.if_icmp .ne 176, 3) := by decide +kernel
theorem dL_disks_53 : decode cL_disks 53 = .ok (.aload_n 0, 1) := by decide +kernel
theorem dL_disks_54 : decode cL_disks 54 = .ok (.invokevirtual 160, 3) := by decide +kernel
theorem dL_disks_57 : decode cL_disks 57 = .ok (.ifCond .ne 169, 3) := by decide +kernel
theorem dL_disks_60 : decode cL_disks 60 = .ok (.aload_n 0, 1) := by decide +kernel
theorem dL_disks_61 : decode cL_disks 61 = .ok (.iconst 0, 1) := by decide +kernel
theorem dL_disks_62 : decode cL_disks 62 = .ok (.bipush 8, 2) := by decide +kernel
theorem dL_disks_64 : decode cL_disks 64 = .ok (.iconst 2, 1) := by decide +kernel
theorem dL_disks_65 : decode cL_disks 65 = .ok (.invokevirtual 26, 3) := by decide +kernel
theorem dL_disks_68 : decode cL_disks 68 = .ok (.iconst 3, 1) := by decide +kernel
theorem dL_disks_69 : decode cL_disks 69 = .ok (.if_icmp .ne 157, 3) := by decide +kernel
theorem dL_disks_72 : decode cL_disks 72 = .ok (.aload_n 0, 1) := by decide +kernel
theorem dL_disks_73 : decode cL_disks 73 = .ok (.invokevirtual 160, 3) := by decide +kernel
theorem dL_disks_76 : decode cL_disks 76 = .ok (.ifCond .eq 150, 3) := by decide +kernel
theorem dL_disks_79 : decode cL_disks 79 = .ok (.aload_n 0, 1) := by decide +kernel
theorem dL_disks_80 : decode cL_disks 80 = .ok (.iconst 1, 1) := by decide +kernel
theorem dL_disks_81 : decode cL_disks 81 = .ok (.invokevirtual 37, 3) := by decide +kernel
theorem dL_disks_84 : decode cL_disks 84 = .ok (.bipush 6, 2) := by decide +kernel
theorem dL_disks_86 : decode cL_disks 86 = .ok (.if_icmp .ne 140, 3) := by decide +kernel
theorem dL_disks_89 : decode cL_disks 89 = .ok (.aload_n 0, 1) := by decide +kernel
theorem dL_disks_90 : decode cL_disks 90 = .ok (.iconst 0, 1) := by decide +kernel
theorem dL_disks_91 : decode cL_disks 91 = .ok (.invokevirtual 37, 3) := by decide +kernel
theorem dL_disks_94 : decode cL_disks 94 = .ok (.ifCond .ne 132, 3) := by decide +kernel
theorem dL_disks_97 : decode cL_disks 97 = .ok (.aload_n 0, 1) := by decide +kernel
theorem dL_disks_98 : decode cL_disks 98 = .ok (.iconst 2, 1) := by decide +kernel
theorem dL_disks_99 : decode cL_disks 99 = .ok (.invokevirtual 37, 3) := by decide +kernel
theorem dL_disks_102 : decode cL_disks 102 = .ok (.ifCond .ne 124, 3) := by decide +kernel
theorem dL_disks_105 : decode cL_disks 105 = .ok (.aload_n 0, 1) := by decide +kernel
theorem dL_disks_106 : decode cL_disks 106 = .ok (.iconst 2, 1) := by decide +kernel
theorem dL_disks_107 : decode cL_disks 107 = .ok (.iconst 3, 1) := by decide +kernel
theorem dL_disks_108 : decode cL_disks 108 = .ok (.invokevirtual 34, 3) := by decide +kernel
theorem dL_disks_111 : decode cL_disks 111 = .ok (.iconst 1, 1) := by decide +kernel
theorem dL_disks_112 : decode cL_disks 112 = .ok (.if_icmp .ne 114, 3) := by decide +kernel
theorem dL_disks_115 : decode cL_disks 115 = .ok (.aload_n 0, 1) := by decide +kernel
theorem dL_disks_116 : decode cL_disks 116 = .ok (.iconst 3, 1) := by decide +kernel
theorem dL_disks_117 : decode cL_disks 117 = .ok (.iconst 0, 1) := by decide +kernel
theorem dL_disks_118 : decode cL_disks 118 = .ok (.bipush 9, 2) := by decide +kernel
theorem dL_disks_120 : decode cL_disks 120 = .ok (.iconst 2, 1) := by decide +kernel
theorem dL_disks_121 : decode cL_disks 121 = .ok (.invokevirtual 30, 3) := by decide +kernel
theorem dL_disks_124 : decode cL_disks 124 = .ok (.iconst 2, 1) := by decide +kernel
theorem dL_disks_125 : decode cL_disks 125 = .ok (.if_icmp .ne 101, 3) := by decide +kernel
theorem dL_disks_128 : decode cL_disks 128 = .ok (.aload_n 0, 1) := by decide +kernel
theorem dL_disks_129 : decode cL_disks 129 = .ok (.iconst 0, 1) := by decide +kernel
theorem dL_disks_130 : decode cL_disks 130 = .ok (.iconst 3, 1) := by decide +kernel
theorem dL_disks_131 : decode cL_disks 131 = .ok (.invokevirtual 34, 3) := by decide +kernel
theorem dL_disks_134 : decode cL_disks 134 = .ok (.ifCond .ne 92, 3) := by decide +kernel
theorem dL_disks_137 : decode cL_disks 137 = .ok (.aload_n 0, 1) := by decide +kernel
theorem dL_disks_138 : decode cL_disks 138 = .ok (.iconst 3, 1) := by decide +kernel
theorem dL_disks_139 : decode cL_disks 139 = .ok (.iconst 1, 1) := by decide +kernel
theorem dL_disks_140 : decode cL_disks 140 = .ok (.invokevirtual 34, 3) := by decide +kernel
theorem dL_disks_143 : decode cL_disks 143 = .ok (.ifCond .ne 83, 3) := by decide +kernel
theorem dL_disks_146 : decode cL_disks 146 = .ok (.aload_n 0, 1) := by decide +kernel
theorem dL_disks_147 : decode cL_disks 147 = .ok (.iconst 3, 1) := by decide +kernel
theorem dL_disks_148 : decode cL_disks 148 = .ok (.iconst 2, 1) := by decide +kernel
theorem dL_disks_149 : decode cL_disks 149 = .ok (.invokevirtual 34, 3) := by decide +kernel
theorem dL_disks_152 : decode cL_disks 152 = .ok (.iconst 2, 1) := by decide +kernel
theorem dL_disks_153 : decode cL_disks 153 = .ok (.if_icmp .ne 73, 3) := by decide +kernel
theorem dL_disks_156 : decode cL_disks 156 = .ok (.aload_n 0, 1) := by decide +kernel
theorem dL_disks_157 : decode cL_disks 157 = .ok (.iconst 0, 1) := by decide +kernel
theorem dL_disks_158 : decode cL_disks 158 = .ok (.invokevirtual 37, 3) := by decide +kernel
theorem dL_disks_161 : decode cL_disks 161 = .ok (.iconst 2, 1) := by decide +kernel
theorem dL_disks_162 : decode cL_disks 162 = .ok (.if_icmp .ne 64, 3) := by decide +kernel
theorem dL_disks_165 : decode cL_disks 165 = .ok (.aload_n 0, 1) := by decide +kernel
theorem dL_disks_166 : decode cL_disks 166 = .ok (.iconst 1, 1) := by decide +kernel
theorem dL_disks_167 : decode cL_disks 167 = .ok (.invokevirtual 37, 3) := by decide +kernel
theorem dL_disks_170 : decode cL_disks 170 = .ok (.iconst 3, 1) := by decide +kernel
theorem dL_disks_171 : decode cL_disks 171 = .ok (.if_icmp .ne 55, 3) := by decide +kernel
theorem dL_disks_174 : decode cL_disks 174 = .ok (.aload_n 0, 1) := by decide +kernel
theorem dL_disks_175 : decode cL_disks 175 = .ok (.iconst 2, 1) := by decide +kernel
theorem dL_disks_176 : decode cL_disks 176 = .ok (.invokevirtual 37, 3) := by decide +kernel
theorem dL_disks_179 : decode cL_disks 179 = .ok (.iconst 1, 1) := by decide +kernel
theorem dL_disks_180 : decode cL_disks 180 = .ok (.if_icmp .ne 46, 3) := by decide +kernel
theorem dL_disks_183 : decode cL_disks 183 = .ok (.aload_n 0, 1) := by decide +kernel
theorem dL_disks_184 : decode cL_disks 184 = .ok (.invokevirtual 160, 3) := by decide +kernel
theorem dL_disks_187 : decode cL_disks 187 = .ok (.ifCond .ne 39, 3) := by decide +kernel
theorem dL_disks_190 : decode cL_disks 190 = .ok (.aload_n 0, 1) := by decide +kernel
theorem dL_disks_191 : decode cL_disks 191 = .ok (.iconst 3, 1) := by decide +kernel
theorem dL_disks_192 : decode cL_disks 192 = .ok (.iconst 0, 1) := by decide +kernel
theorem dL_disks_193 : decode cL_disks 193 = .ok (.bipush 8, 2) := by decide +kernel
theorem dL_disks_195 : decode cL_disks 195 = .ok (.iconst 2, 1) := by decide +kernel
theorem dL_disks_196 : decode cL_disks 196 = .ok (.invokevirtual 30, 3) := by decide +kernel
theorem dL_disks_199 : decode cL_disks 199 = .ok (.iconst 2, 1) := by decide +kernel
theorem dL_disks_200 : decode cL_disks 200 = .ok (.if_icmp .ne 26, 3) := by decide +kernel
theorem dL_disks_203 : decode cL_disks 203 = .ok (.aload_n 0, 1) := by decide +kernel
theorem dL_disks_204 : decode cL_disks 204 = .ok (.invokevirtual 160, 3) := by decide +kernel
theorem dL_disks_207 : decode cL_disks 207 = .ok (.ifCond .eq 19, 3) := by decide +kernel
theorem dL_disks_210 : decode cL_disks 210 = .ok (.aload_n 0, 1) := by decide +kernel
theorem dL_disks_211 : decode cL_disks 211 = .ok (.iconst 0, 1) := by decide +kernel
theorem dL_disks_212 : decode cL_disks 212 = .ok (.invokevirtual 7, 3) := by decide +kernel
theorem dL_disks_215 : decode cL_disks 215 = .ok (.iconst 4, 1) := by decide +kernel
theorem dL_disks_216 : decode cL_disks 216 = .ok (.if_icmp .ne 10, 3) := by decide +kernel
theorem dL_disks_219 : decode cL_disks 219 = .ok (.aload_n 0, 1) := by decide +kernel
theorem dL_disks_220 : decode cL_disks 220 = .ok (.invokevirtual 160, 3) := by decide +kernel
theorem dL_disks_223 : decode cL_disks 223 = .ok (.ifCond .eq 5, 3) := by decide +kernel
theorem dL_disks_226 : decode cL_disks 226 = .ok (.iconst 0, 1) := by decide +kernel
theorem dL_disks_227 : decode cL_disks 227 = .ok (.ireturn, 1) := by decide +kernel
theorem dL_disks_228 : decode cL_disks 228 = .ok (.aload_n 0, 1) := by decide +kernel
theorem dL_disks_229 : decode cL_disks 229 = .ok (.iconst 0, 1) := by decide +kernel
theorem dL_disks_230 : decode cL_disks 230 = .ok (.bipush 100, 2) := by decide +kernel
theorem dL_disks_232 : decode cL_disks 232 = .ok (.iconst 1, 1) := by decide +kernel
theorem dL_disks_233 : decode cL_disks 233 = .ok (.invokevirtual 26, 3) := by decide +kernel
theorem dL_disks_236 : decode cL_disks 236 = .ok (.iconst 4, 1) := by decide +kernel
theorem dL_disks_237 : decode cL_disks 237 = .ok (.if_icmp .ne 111, 3) := by decide +kernel
theorem dL_disks_240 : decode cL_disks 240 = .ok (.aload_n 0, 1) := by decide +kernel
theorem dL_disks_241 : decode cL_disks 241 = .ok (.invokevirtual 160, 3) := by decide +kernel
theorem dL_disks_244 : decode cL_disks 244 = .ok (.ifCond .ne 104, 3) := by decide +kernel
theorem dL_disks_247 : decode cL_disks 247 = .ok (.aload_n 0, 1) := by decide +kernel
theorem dL_disks_248 : decode cL_disks 248 = .ok (.iconst 4, 1) := by decide +kernel
theorem dL_disks_249 : decode cL_disks 249 = .ok (.ldc 163, 2) := by decide +kernel
theorem dL_disks_251 : decode cL_disks 251 = .ok (.ldc 163, 2) := by decide +kernel
theorem dL_disks_253 : decode cL_disks 253 = .ok (.iconst 1, 1) := by decide +kernel
theorem dL_disks_254 : decode cL_disks 254 = .ok (.invokevirtual 30, 3) := by decide +kernel
theorem dL_disks_257 : decode cL_disks 257 = .ok (.iconst 1, 1) := by decide +kernel
theorem dL_disks_258 : decode cL_disks 258 = .ok (.if_icmp .ne 90, 3) := by decide +kernel
theorem dL_disks_261 : decode cL_disks 261 = .ok (.aload_n 0, 1) := by decide +kernel
theorem dL_disks_262 : decode cL_disks 262 = .ok (.ldc 164, 2) := by decide +kernel
theorem dL_disks_264 : decode cL_disks 264 = .ok (.ldc 164, 2) := by decide +kernel
theorem dL_disks_266 : decode cL_disks 266 = .ok (.ldc 164, 2) := by decide +kernel
theorem dL_disks_268 : decode cL_disks 268 = .ok (.invokevirtual 26, 3) := by decide +kernel
theorem dL_disks_271 : decode cL_disks 271 = .ok (.iconst 5, 1) := by decide +kernel
theorem dL_disks_272 : decode cL_disks 272 = .ok (.if_icmp .ne 76, 3) := by decide +kernel
theorem dL_disks_275 : decode cL_disks 275 = .ok (.aload_n 0, 1) := by decide +kernel
theorem dL_disks_276 : decode cL_disks 276 = .ok (.iconst 4, 1) := by decide +kernel
theorem dL_disks_277 : decode cL_disks 277 = .ok (.iconst 5, 1) := by decide +kernel
theorem dL_disks_278 : decode cL_disks 278 = .ok (.invokevirtual 34, 3) := by decide +kernel
theorem dL_disks_281 : decode cL_disks 281 = .ok (.ifCond .ne 67, 3) := by decide +kernel
theorem dL_disks_284 : decode cL_disks 284 = .ok (.aload_n 0, 1) := by decide +kernel
theorem dL_disks_285 : decode cL_disks 285 = .ok (.iconst 4, 1) := by decide +kernel
theorem dL_disks_286 : decode cL_disks 286 = .ok (.ldc 163, 2) := by decide +kernel
theorem dL_disks_288 : decode cL_disks 288 = .ok (.ldc 164, 2) := by decide +kernel
theorem dL_disks_290 : decode cL_disks 290 = .ok (.ldc 164, 2) := by decide +kernel
theorem dL_disks_292 : decode cL_disks 292 = .ok (.invokevirtual 30, 3) := by decide +kernel
theorem dL_disks_295 : decode cL_disks 295 = .ok (.iconst 1, 1) := by decide +kernel
theorem dL_disks_296 : decode cL_disks 296 = .ok (.if_icmp .ne 52, 3) := by decide +kernel
theorem dL_disks_299 : decode cL_disks 299 = .ok (.aload_n 0, 1) := by decide +kernel
theorem dL_disks_300 : decode cL_disks 300 = .ok (.iconst 4, 1) := by decide +kernel
theorem dL_disks_301 : decode cL_disks 301 = .ok (.iconst 5, 1) := by decide +kernel
theorem dL_disks_302 : decode cL_disks 302 = .ok (.invokevirtual 34, 3) := by decide +kernel
theorem dL_disks_305 : decode cL_disks 305 = .ok (.iconst 1, 1) := by decide +kernel
theorem dL_disks_306 : decode cL_disks 306 = .ok (.if_icmp .ne 42, 3) := by decide +kernel
theorem dL_disks_309 : decode cL_disks 309 = .ok (.aload_n 0, 1) := by decide +kernel
theorem dL_disks_310 : decode cL_disks 310 = .ok (.iconst 4, 1) := by decide +kernel
theorem dL_disks_311 : decode cL_disks 311 = .ok (.ldc 165, 2) := by decide +kernel
theorem dL_disks_313 : decode cL_disks 313 = .ok (.ldc 164, 2) := by decide +kernel
theorem dL_disks_315 : decode cL_disks 315 = .ok (.ldc 164, 2) := by decide +kernel
theorem dL_disks_317 : decode cL_disks 317 = .ok (.invokevirtual 30, 3) := by decide +kernel
theorem dL_disks_320 : decode cL_disks 320 = .ok (.ldc 164, 2) := by decide +kernel
theorem dL_disks_322 : decode cL_disks 322 = .ok (.if_icmp .ne 26, 3) := by decide +kernel
theorem dL_disks_325 : decode cL_disks 325 = .ok (.aload_n 0, 1) := by decide +kernel
theorem dL_disks_326 : decode cL_disks 326 = .ok (.iconst 4, 1) := by decide +kernel
theorem dL_disks_327 : decode cL_disks 327 = .ok (.iconst 5, 1) := by decide +kernel
theorem dL_disks_328 : decode cL_disks 328 = .ok (.invokevirtual 34, 3) := by decide +kernel
theorem dL_disks_331 : decode cL_disks 331 = .ok (.iconst 2, 1) := by decide +kernel
theorem dL_disks_332 : decode cL_disks 332 = .ok (.if_icmp .ne 16, 3) := by decide +kernel
theorem dL_disks_335 : decode cL_disks 335 = .ok (.aload_n 0, 1) := by decide +kernel
theorem dL_disks_336 : decode cL_disks 336 = .ok (.bipush 6, 2) := by decide +kernel
theorem dL_disks_338 : decode cL_disks 338 = .ok (.iconst 0, 1) := by decide +kernel
theorem dL_disks_339 : decode cL_disks 339 = .ok (.iconst 0, 1) := by decide +kernel
theorem dL_disks_340 : decode cL_disks 340 = .ok (.iconst 2, 1) := by decide +kernel
theorem dL_disks_341 : decode cL_disks 341 = .ok (.iconst 0, 1) := by decide +kernel
theorem dL_disks_342 : decode cL_disks 342 = .ok (.invokestatic 127, 3) := by decide +kernel
theorem dL_disks_345 : decode cL_disks 345 = .ok (.ifCond .ne 5, 3) := by decide +kernel
theorem dL_disks_348 : decode cL_disks 348 = .ok (.iconst 0, 1) := by decide +kernel
theorem dL_disks_349 : decode cL_disks 349 = .ok (.ireturn, 1) := by decide +kernel
theorem dL_disks_350 : decode cL_disks 350 = .ok (.bipush 6, 2) := by decide +kernel
theorem dL_disks_352 : decode cL_disks 352 = .ok (.istore_n 1, 1) := by decide +kernel
theorem dL_disks_353 : decode cL_disks 353 = .ok (.iload_n 1, 1) := by decide +kernel
theorem dL_disks_354 : decode cL_disks 354 = .ok (.bipush 17, 2) := by decide +kernel
theorem dL_disks_356 : decode cL_disks 356 = .ok (.if_icmp .ge 38, 3) := by decide +kernel
theorem dL_disks_359 : decode cL_disks 359 = .ok (.aload_n 0, 1) := by decide +kernel
theorem dL_disks_360 : decode cL_disks 360 = .ok (.iconst 5, 1) := by decide +kernel
theorem dL_disks_361 : decode cL_disks 361 = .ok (.iload_n 1, 1) := by decide +kernel
theorem dL_disks_362 : decode cL_disks 362 = .ok (.iload_n 1, 1) := by decide +kernel
theorem dL_disks_363 : decode cL_disks 363 = .ok (.ineg, 1) := by decide +kernel
theorem dL_disks_364 : decode cL_disks 364 = .ok (.iconst 1, 1) := by decide +kernel
theorem dL_disks_365 : decode cL_disks 365 = .ok (.iconst 0, 1) := by decide +kernel
theorem dL_disks_366 : decode cL_disks 366 = .ok (.invokestatic 117, 3) := by decide +kernel
theorem dL_disks_369 : decode cL_disks 369 = .ok (.iload_n 1, 1) := by decide +kernel
theorem dL_disks_370 : decode cL_disks 370 = .ok (.bipush 16, 2) := by decide +kernel
theorem dL_disks_372 : decode cL_disks 372 = .ok (.if_icmp .ge 7, 3) := by decide +kernel
theorem dL_disks_375 : decode cL_disks 375 = .ok (.iload_n 1, 1) := by decide +kernel
theorem dL_disks_376 : decode cL_disks 376 = .ok (.goto 5, 3) := by decide +kernel
theorem dL_disks_379 : decode cL_disks 379 = .ok (.ldc 140, 2) := by decide +kernel
theorem dL_disks_381 : decode cL_disks 381 = .ok (.i2l, 1) := by decide +kernel
theorem dL_disks_382 : decode cL_disks 382 = .ok (.lcmp, 1) := by decide +kernel
theorem dL_disks_383 : decode cL_disks 383 = .ok (.ifCond .eq 5, 3) := by decide +kernel
theorem dL_disks_386 : decode cL_disks 386 = .ok (.iconst 0, 1) := by decide +kernel
theorem dL_disks_387 : decode cL_disks 387 = .ok (.ireturn, 1) := by decide +kernel
theorem dL_disks_388 : decode cL_disks 388 = .ok (.iinc 1 1, 3) := by decide +kernel
theorem dL_disks_391 : decode cL_disks 391 = .ok (.goto (-38), 3) := by decide +kernel
theorem dL_disks_394 : decode cL_disks 394 = .ok (.aload_n 0, 1) := by decide +kernel
theorem dL_disks_395 : decode cL_disks 395 = .ok (.bipush 6, 2) := by decide +kernel
theorem dL_disks_397 : decode cL_disks 397 = .ok (.bipush 7, 2) := by decide +kernel
theorem dL_disks_399 : decode cL_disks 399 = .ok (.invokevirtual 34, 3) := by decide +kernel
theorem dL_disks_402 : decode cL_disks 402 = .ok (.iconst 2, 1) := by decide +kernel
theorem dL_disks_403 : decode cL_disks 403 = .ok (.if_icmp .ne 40, 3) := by decide +kernel
theorem dL_disks_406 : decode cL_disks 406 = .ok (.aload_n 0, 1) := by decide +kernel
theorem dL_disks_407 : decode cL_disks 407 = .ok (.bipush 6, 2) := by decide +kernel
theorem dL_disks_409 : decode cL_disks 409 = .ok (.bipush 8, 2) := by decide +kernel
