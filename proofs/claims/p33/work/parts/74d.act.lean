theorem hdA_X8_between : yX8_between.cls ≠ "java/lang/invoke/MethodHandle" ∧ yX8_between.cls ≠ "java/lang/invoke/VarHandle" ∧ (parseMethodDescriptor yX8_between.desc).map (fun d => d.parameters.length) = some 5 := by decide +kernel
set_option maxHeartbeats 2000000 in
theorem act_18 {l : Launch} {G : kG} {B0 h : Nat} {f : kH} (hh : ∃ vs, f h = some (.inr (8, vs))) (a b x y : Int32) {R : pRJ} (hc : cJ l G B0 h f yX8_between wsX8_between [.int a, .int b, .int x, .int y, .int (nI 1)] R) : vx_Met l yL_act wsP_act rmA (kP G B0 f [.ref h, .int (nI 18), .int a, .int b, .int x, .int y]) (kQl G B0 (fun r f1 => r = rvJ R ∧ Inv G h f1 R.2.2)) (kXN G B0) 8 64 (kAb B0) := by
  obtain ⟨vs, hh⟩ := hh
  refine kMetH (cc := cL_act) (maxL := 7) (ret := (some .long)) (hh := [(0, 435, 436, 96), (0, 435, 442, 100), (0, 435, 448, 104)]) (by decide) rfl (Nat.le_of_ble_eq_true rfl) ?_
  intro p e s m args below meth c H locs Q ls C hX hl hr hlocks hQ htab
  have hl : lv_has ls 7 [(0, .ref h), (1, .int (nI 18)), (2, .int a), (3, .int b), (4, .int x), (5, .int y)] := hl
  refine lv_iload_n C.x C.b dL_act_0 rfl (lv_at hl 1 rfl) ?_
  refine lv_if_ne (tgt := 13) C.x C.b dL_act_1 (by decide) (fun _ => ?_) (fun q9 => absurd q9 (by decide))
  refine lv_iload_n C.x C.b dL_act_13 rfl (lv_at hl 1 rfl) ?_
  refine lv_iconst (v := nI 1) C.x C.b dL_act_14 (by decide) ?_
  refine lv_icmp_ne (tgt := 28) C.x C.b dL_act_15 (by decide) (fun _ => ?_) (fun q9 => absurd q9 (by decide))
  refine lv_iload_n C.x C.b dL_act_28 rfl (lv_at hl 1 rfl) ?_
  refine lv_iconst (v := nI 2) C.x C.b dL_act_29 (by decide) ?_
  refine lv_icmp_ne (tgt := 43) C.x C.b dL_act_30 (by decide) (fun _ => ?_) (fun q9 => absurd q9 (by decide))
  refine lv_iload_n C.x C.b dL_act_43 rfl (lv_at hl 1 rfl) ?_
  refine lv_iconst (v := nI 3) C.x C.b dL_act_44 (by decide) ?_
  refine lv_icmp_ne (tgt := 58) C.x C.b dL_act_45 (by decide) (fun _ => ?_) (fun q9 => absurd q9 (by decide))
  refine lv_iload_n C.x C.b dL_act_58 rfl (lv_at hl 1 rfl) ?_
  refine lv_iconst (v := nI 4) C.x C.b dL_act_59 (by decide) ?_
  refine lv_icmp_ne (tgt := 72) C.x C.b dL_act_60 (by decide) (fun _ => ?_) (fun q9 => absurd q9 (by decide))
  refine lv_iload_n C.x C.b dL_act_72 rfl (lv_at hl 1 rfl) ?_
  refine lv_iconst (v := nI 5) C.x C.b dL_act_73 (by decide) ?_
  refine lv_icmp_ne (tgt := 89) C.x C.b dL_act_74 (by decide) (fun _ => ?_) (fun q9 => absurd q9 (by decide))
  refine lv_iload_n C.x C.b dL_act_89 rfl (lv_at hl 1 rfl) ?_
  refine lv_bipush (v := nI 6) C.x C.b dL_act_90 (by decide) ?_
  refine lv_icmp_ne (tgt := 109) C.x C.b dL_act_92 (by decide) (fun _ => ?_) (fun q9 => absurd q9 (by decide))
  refine lv_iload_n C.x C.b dL_act_109 rfl (lv_at hl 1 rfl) ?_
  refine lv_bipush (v := nI 7) C.x C.b dL_act_110 (by decide) ?_
  refine lv_icmp_ne (tgt := 125) C.x C.b dL_act_112 (by decide) (fun _ => ?_) (fun q9 => absurd q9 (by decide))
  refine lv_iload_n C.x C.b dL_act_125 rfl (lv_at hl 1 rfl) ?_
  refine lv_bipush (v := nI 8) C.x C.b dL_act_126 (by decide) ?_
  refine lv_icmp_ne (tgt := 140) C.x C.b dL_act_128 (by decide) (fun _ => ?_) (fun q9 => absurd q9 (by decide))
  refine lv_iload_n C.x C.b dL_act_140 rfl (lv_at hl 1 rfl) ?_
  refine lv_bipush (v := nI 9) C.x C.b dL_act_141 (by decide) ?_
  refine lv_icmp_ne (tgt := 160) C.x C.b dL_act_143 (by decide) (fun _ => ?_) (fun q9 => absurd q9 (by decide))
  refine lv_iload_n C.x C.b dL_act_160 rfl (lv_at hl 1 rfl) ?_
  refine lv_bipush (v := nI 10) C.x C.b dL_act_161 (by decide) ?_
  refine lv_icmp_ne (tgt := 175) C.x C.b dL_act_163 (by decide) (fun _ => ?_) (fun q9 => absurd q9 (by decide))
  refine lv_iload_n C.x C.b dL_act_175 rfl (lv_at hl 1 rfl) ?_
  refine lv_bipush (v := nI 11) C.x C.b dL_act_176 (by decide) ?_
  refine lv_icmp_ne (tgt := 190) C.x C.b dL_act_178 (by decide) (fun _ => ?_) (fun q9 => absurd q9 (by decide))
  refine lv_iload_n C.x C.b dL_act_190 rfl (lv_at hl 1 rfl) ?_
  refine lv_bipush (v := nI 12) C.x C.b dL_act_191 (by decide) ?_
  refine lv_icmp_ne (tgt := 206) C.x C.b dL_act_193 (by decide) (fun _ => ?_) (fun q9 => absurd q9 (by decide))
  refine lv_iload_n C.x C.b dL_act_206 rfl (lv_at hl 1 rfl) ?_
  refine lv_bipush (v := nI 13) C.x C.b dL_act_207 (by decide) ?_
  refine lv_icmp_ne (tgt := 221) C.x C.b dL_act_209 (by decide) (fun _ => ?_) (fun q9 => absurd q9 (by decide))
  refine lv_iload_n C.x C.b dL_act_221 rfl (lv_at hl 1 rfl) ?_
  refine lv_bipush (v := nI 14) C.x C.b dL_act_222 (by decide) ?_
  refine lv_icmp_ne (tgt := 237) C.x C.b dL_act_224 (by decide) (fun _ => ?_) (fun q9 => absurd q9 (by decide))
  refine lv_iload_n C.x C.b dL_act_237 rfl (lv_at hl 1 rfl) ?_
  refine lv_bipush (v := nI 15) C.x C.b dL_act_238 (by decide) ?_
  refine lv_icmp_ne (tgt := 253) C.x C.b dL_act_240 (by decide) (fun _ => ?_) (fun q9 => absurd q9 (by decide))
  refine lv_iload_n C.x C.b dL_act_253 rfl (lv_at hl 1 rfl) ?_
  refine lv_bipush (v := nI 16) C.x C.b dL_act_254 (by decide) ?_
  refine lv_icmp_ne (tgt := 269) C.x C.b dL_act_256 (by decide) (fun _ => ?_) (fun q9 => absurd q9 (by decide))
  refine lv_iload_n C.x C.b dL_act_269 rfl (lv_at hl 1 rfl) ?_
  refine lv_bipush (v := nI 17) C.x C.b dL_act_270 (by decide) ?_
  refine lv_icmp_ne (tgt := 289) C.x C.b dL_act_272 (by decide) (fun _ => ?_) (fun q9 => absurd q9 (by decide))
  refine lv_iload_n C.x C.b dL_act_289 rfl (lv_at hl 1 rfl) ?_
  refine lv_bipush (v := nI 18) C.x C.b dL_act_290 (by decide) ?_
  refine lv_icmp_ne (tgt := 309) C.x C.b dL_act_292 (by decide) (fun q9 => absurd rfl q9) (fun _ => ?_)
  refine lv_aload_n C.x C.b dL_act_295 rfl (lv_at hl 0 rfl) ?_
  refine lv_iload_n C.x C.b dL_act_296 rfl (lv_at hl 2 rfl) ?_
  refine lv_iload_n C.x C.b dL_act_297 rfl (lv_at hl 3 rfl) ?_
  refine lv_iload C.x C.b dL_act_298 (lv_at hl 4 rfl) ?_
  refine lv_iload C.x C.b dL_act_300 (lv_at hl 5 rfl) ?_
  refine lv_iconst (v := nI 1) C.x C.b dL_act_302 (by decide) ?_
  rcases hc with ⟨h0, hg⟩ | hn
  · obtain ⟨rm, mc, ms, ⟨q1, q2, q3, q4, q5, q6⟩, hm⟩ := hg
    refine k_calll (va_runV (As := [.int a, .int b, .int x, .int y, .int (nI 1)]) (rest := []) C.1 hm (cwV 5 C.ts (gl_up inv_X8_between) rfl q1 q2 ⟨rfl, hdA_X8_between⟩ ⟨by show rm.frames + 1 ≤ 301; omega, by show 8 + (_ + 11) + rm.locals ≤ 20040; omega⟩) (k_preV C hX hh rfl) rfl rfl hl.1 rfl (lv_room (Nat.le_of_ble_eq_true rfl)) dL_act_303 ⟨by show 0 + mc ≤ 8; omega, by show 0 + ms ≤ 64; omega⟩) hX (fun r0 f1 H locs hp hX => ?_)
    obtain ⟨hr0, hI1⟩ := hp
    refine lv_goto (tgt := 435) C.x C.b dL_act_306 (by decide) ?_
    exact k_lretX C hX hr hlocks hQ (by omega) (by omega) ⟨by rw [rvJ_0 h0, hr0], hI1⟩ dL_act_435
  rcases hn.cs with ⟨hk, hg⟩ | ⟨hk, hg⟩ | ⟨hk, hg⟩
  · obtain ⟨rm, mc, ms, ⟨q1, q2, q3, q4, q5, q6⟩, hm⟩ := hg
    refine k_catX C (vx_runV (As := [.int a, .int b, .int x, .int y, .int (nI 1)]) (rest := []) C.1 hm (cwV 5 C.ts (gl_up inv_X8_between) rfl q1 q2 ⟨rfl, hdA_X8_between⟩ ⟨by show rm.frames + 1 ≤ 301; omega, by show 8 + (_ + 11) + rm.locals ≤ 20040; omega⟩) (k_preV C hX hh rfl) rfl rfl hl.1 rfl (lv_room (Nat.le_of_ble_eq_true rfl)) dL_act_303 ⟨by show 0 + mc ≤ 8; omega, by show 0 + ms ≤ 64; omega⟩) hX [] (0, 435, 436, 96) [(0, 435, 442, 100), (0, 435, 448, 104)] htab (fun z9 hz9 => by simp at hz9) (by decide) (by decide) lkA_o inA_o (fun q9 f1 H locs hp hX => ?_)
    refine lv_astore (lv' := [(6, .ref q9), (0, .ref h), (1, .int (nI 18)), (2, .int a), (3, .int b), (4, .int x), (5, .int y)]) C.x C.b dL_act_436 hl (by decide) rfl (fun ls hl => ?_)
    refine lv_ldc2 (v := -7000001) C.x C.b C.ow (C.ts _ lkA_c98) dL_act_438 ?_
    exact k_lretX C hX hr hlocks hQ (by omega) (by omega) ⟨by rw [rvJ_1 hk], hp⟩ dL_act_441
  · obtain ⟨rm, mc, ms, ⟨q1, q2, q3, q4, q5, q6⟩, hm⟩ := hg
    refine k_catX C (vx_runV (As := [.int a, .int b, .int x, .int y, .int (nI 1)]) (rest := []) C.1 hm (cwV 5 C.ts (gl_up inv_X8_between) rfl q1 q2 ⟨rfl, hdA_X8_between⟩ ⟨by show rm.frames + 1 ≤ 301; omega, by show 8 + (_ + 11) + rm.locals ≤ 20040; omega⟩) (k_preV C hX hh rfl) rfl rfl hl.1 rfl (lv_room (Nat.le_of_ble_eq_true rfl)) dL_act_303 ⟨by show 0 + mc ≤ 8; omega, by show 0 + ms ≤ 64; omega⟩) hX [(0, 435, 436, 96)] (0, 435, 442, 100) [(0, 435, 448, 104)] htab (fun z9 hz9 => by
      simp only [List.mem_cons, List.not_mem_nil, or_false] at hz9
      rcases hz9 with rfl
      · exact ⟨by decide, "java/lang/IndexOutOfBoundsException", lkA_o, by decide +kernel⟩) (by decide) (by decide) lkA_a inA_a (fun q9 f1 H locs hp hX => ?_)
    refine lv_astore (lv' := [(6, .ref q9), (0, .ref h), (1, .int (nI 18)), (2, .int a), (3, .int b), (4, .int x), (5, .int y)]) C.x C.b dL_act_442 hl (by decide) rfl (fun ls hl => ?_)
    refine lv_ldc2 (v := -7000002) C.x C.b C.ow (C.ts _ lkA_c102) dL_act_444 ?_
    exact k_lretX C hX hr hlocks hQ (by omega) (by omega) ⟨by rw [rvJ_2 hk], hp⟩ dL_act_447
  · obtain ⟨rm, mc, ms, ⟨q1, q2, q3, q4, q5, q6⟩, hm⟩ := hg
    refine k_catX C (vx_runV (As := [.int a, .int b, .int x, .int y, .int (nI 1)]) (rest := []) C.1 hm (cwV 5 C.ts (gl_up inv_X8_between) rfl q1 q2 ⟨rfl, hdA_X8_between⟩ ⟨by show rm.frames + 1 ≤ 301; omega, by show 8 + (_ + 11) + rm.locals ≤ 20040; omega⟩) (k_preV C hX hh rfl) rfl rfl hl.1 rfl (lv_room (Nat.le_of_ble_eq_true rfl)) dL_act_303 ⟨by show 0 + mc ≤ 8; omega, by show 0 + ms ≤ 64; omega⟩) hX [(0, 435, 436, 96), (0, 435, 442, 100)] (0, 435, 448, 104) [] htab (fun z9 hz9 => by
      simp only [List.mem_cons, List.not_mem_nil, or_false] at hz9
      rcases hz9 with rfl | rfl
      · exact ⟨by decide, "java/lang/IndexOutOfBoundsException", lkA_o, by decide +kernel⟩
      · exact ⟨by decide, "java/lang/IllegalArgumentException", lkA_a, by decide +kernel⟩) (by decide) (by decide) lkA_s inA_s (fun q9 f1 H locs hp hX => ?_)
    refine lv_astore (lv' := [(6, .ref q9), (0, .ref h), (1, .int (nI 18)), (2, .int a), (3, .int b), (4, .int x), (5, .int y)]) C.x C.b dL_act_448 hl (by decide) rfl (fun ls hl => ?_)
    refine lv_ldc2 (v := -7000003) C.x C.b C.ow (C.ts _ lkA_c106) dL_act_450 ?_
    exact k_lretX C hX hr hlocks hQ (by omega) (by omega) ⟨by rw [rvJ_3 hk], hp⟩ dL_act_453
theorem hdA_X8_tell : yX8_tell.cls ≠ "java/lang/invoke/MethodHandle" ∧ yX8_tell.cls ≠ "java/lang/invoke/VarHandle" ∧ (parseMethodDescriptor yX8_tell.desc).map (fun d => d.parameters.length) = some 4 := by decide +kernel
set_option maxHeartbeats 2000000 in
theorem act_19 {l : Launch} {G : kG} {B0 h : Nat} {f : kH} (hh : ∃ vs, f h = some (.inr (8, vs))) (a b x y : Int32) {R : pRI} (hc : cI l G B0 h f yX8_tell wsX8_tell [.int a, .int b, .int x, .int y] R) : vx_Met l yL_act wsP_act rmA (kP G B0 f [.ref h, .int (nI 19), .int a, .int b, .int x, .int y]) (kQl G B0 (fun r f1 => r = rvI R ∧ Inv G h f1 R.2.2)) (kXN G B0) 8 64 (kAb B0) := by
  obtain ⟨vs, hh⟩ := hh
  refine kMetH (cc := cL_act) (maxL := 7) (ret := (some .long)) (hh := [(0, 435, 436, 96), (0, 435, 442, 100), (0, 435, 448, 104)]) (by decide) rfl (Nat.le_of_ble_eq_true rfl) ?_
  intro p e s m args below meth c H locs Q ls C hX hl hr hlocks hQ htab
  have hl : lv_has ls 7 [(0, .ref h), (1, .int (nI 19)), (2, .int a), (3, .int b), (4, .int x), (5, .int y)] := hl
  refine lv_iload_n C.x C.b dL_act_0 rfl (lv_at hl 1 rfl) ?_
  refine lv_if_ne (tgt := 13) C.x C.b dL_act_1 (by decide) (fun _ => ?_) (fun q9 => absurd q9 (by decide))
  refine lv_iload_n C.x C.b dL_act_13 rfl (lv_at hl 1 rfl) ?_
  refine lv_iconst (v := nI 1) C.x C.b dL_act_14 (by decide) ?_
  refine lv_icmp_ne (tgt := 28) C.x C.b dL_act_15 (by decide) (fun _ => ?_) (fun q9 => absurd q9 (by decide))
  refine lv_iload_n C.x C.b dL_act_28 rfl (lv_at hl 1 rfl) ?_
  refine lv_iconst (v := nI 2) C.x C.b dL_act_29 (by decide) ?_
  refine lv_icmp_ne (tgt := 43) C.x C.b dL_act_30 (by decide) (fun _ => ?_) (fun q9 => absurd q9 (by decide))
  refine lv_iload_n C.x C.b dL_act_43 rfl (lv_at hl 1 rfl) ?_
  refine lv_iconst (v := nI 3) C.x C.b dL_act_44 (by decide) ?_
  refine lv_icmp_ne (tgt := 58) C.x C.b dL_act_45 (by decide) (fun _ => ?_) (fun q9 => absurd q9 (by decide))
  refine lv_iload_n C.x C.b dL_act_58 rfl (lv_at hl 1 rfl) ?_
  refine lv_iconst (v := nI 4) C.x C.b dL_act_59 (by decide) ?_
  refine lv_icmp_ne (tgt := 72) C.x C.b dL_act_60 (by decide) (fun _ => ?_) (fun q9 => absurd q9 (by decide))
  refine lv_iload_n C.x C.b dL_act_72 rfl (lv_at hl 1 rfl) ?_
  refine lv_iconst (v := nI 5) C.x C.b dL_act_73 (by decide) ?_
  refine lv_icmp_ne (tgt := 89) C.x C.b dL_act_74 (by decide) (fun _ => ?_) (fun q9 => absurd q9 (by decide))
  refine lv_iload_n C.x C.b dL_act_89 rfl (lv_at hl 1 rfl) ?_
  refine lv_bipush (v := nI 6) C.x C.b dL_act_90 (by decide) ?_
  refine lv_icmp_ne (tgt := 109) C.x C.b dL_act_92 (by decide) (fun _ => ?_) (fun q9 => absurd q9 (by decide))
  refine lv_iload_n C.x C.b dL_act_109 rfl (lv_at hl 1 rfl) ?_
  refine lv_bipush (v := nI 7) C.x C.b dL_act_110 (by decide) ?_
  refine lv_icmp_ne (tgt := 125) C.x C.b dL_act_112 (by decide) (fun _ => ?_) (fun q9 => absurd q9 (by decide))
  refine lv_iload_n C.x C.b dL_act_125 rfl (lv_at hl 1 rfl) ?_
  refine lv_bipush (v := nI 8) C.x C.b dL_act_126 (by decide) ?_
  refine lv_icmp_ne (tgt := 140) C.x C.b dL_act_128 (by decide) (fun _ => ?_) (fun q9 => absurd q9 (by decide))
  refine lv_iload_n C.x C.b dL_act_140 rfl (lv_at hl 1 rfl) ?_
  refine lv_bipush (v := nI 9) C.x C.b dL_act_141 (by decide) ?_
  refine lv_icmp_ne (tgt := 160) C.x C.b dL_act_143 (by decide) (fun _ => ?_) (fun q9 => absurd q9 (by decide))
  refine lv_iload_n C.x C.b dL_act_160 rfl (lv_at hl 1 rfl) ?_
  refine lv_bipush (v := nI 10) C.x C.b dL_act_161 (by decide) ?_
  refine lv_icmp_ne (tgt := 175) C.x C.b dL_act_163 (by decide) (fun _ => ?_) (fun q9 => absurd q9 (by decide))
  refine lv_iload_n C.x C.b dL_act_175 rfl (lv_at hl 1 rfl) ?_
  refine lv_bipush (v := nI 11) C.x C.b dL_act_176 (by decide) ?_
  refine lv_icmp_ne (tgt := 190) C.x C.b dL_act_178 (by decide) (fun _ => ?_) (fun q9 => absurd q9 (by decide))
  refine lv_iload_n C.x C.b dL_act_190 rfl (lv_at hl 1 rfl) ?_
  refine lv_bipush (v := nI 12) C.x C.b dL_act_191 (by decide) ?_
  refine lv_icmp_ne (tgt := 206) C.x C.b dL_act_193 (by decide) (fun _ => ?_) (fun q9 => absurd q9 (by decide))
  refine lv_iload_n C.x C.b dL_act_206 rfl (lv_at hl 1 rfl) ?_
  refine lv_bipush (v := nI 13) C.x C.b dL_act_207 (by decide) ?_
  refine lv_icmp_ne (tgt := 221) C.x C.b dL_act_209 (by decide) (fun _ => ?_) (fun q9 => absurd q9 (by decide))
  refine lv_iload_n C.x C.b dL_act_221 rfl (lv_at hl 1 rfl) ?_
  refine lv_bipush (v := nI 14) C.x C.b dL_act_222 (by decide) ?_
  refine lv_icmp_ne (tgt := 237) C.x C.b dL_act_224 (by decide) (fun _ => ?_) (fun q9 => absurd q9 (by decide))
  refine lv_iload_n C.x C.b dL_act_237 rfl (lv_at hl 1 rfl) ?_
  refine lv_bipush (v := nI 15) C.x C.b dL_act_238 (by decide) ?_
  refine lv_icmp_ne (tgt := 253) C.x C.b dL_act_240 (by decide) (fun _ => ?_) (fun q9 => absurd q9 (by decide))
  refine lv_iload_n C.x C.b dL_act_253 rfl (lv_at hl 1 rfl) ?_
  refine lv_bipush (v := nI 16) C.x C.b dL_act_254 (by decide) ?_
  refine lv_icmp_ne (tgt := 269) C.x C.b dL_act_256 (by decide) (fun _ => ?_) (fun q9 => absurd q9 (by decide))
  refine lv_iload_n C.x C.b dL_act_269 rfl (lv_at hl 1 rfl) ?_
  refine lv_bipush (v := nI 17) C.x C.b dL_act_270 (by decide) ?_
  refine lv_icmp_ne (tgt := 289) C.x C.b dL_act_272 (by decide) (fun _ => ?_) (fun q9 => absurd q9 (by decide))
  refine lv_iload_n C.x C.b dL_act_289 rfl (lv_at hl 1 rfl) ?_
  refine lv_bipush (v := nI 18) C.x C.b dL_act_290 (by decide) ?_
  refine lv_icmp_ne (tgt := 309) C.x C.b dL_act_292 (by decide) (fun _ => ?_) (fun q9 => absurd q9 (by decide))
  refine lv_iload_n C.x C.b dL_act_309 rfl (lv_at hl 1 rfl) ?_
  refine lv_bipush (v := nI 19) C.x C.b dL_act_310 (by decide) ?_
  refine lv_icmp_ne (tgt := 329) C.x C.b dL_act_312 (by decide) (fun q9 => absurd rfl q9) (fun _ => ?_)
  refine lv_aload_n C.x C.b dL_act_315 rfl (lv_at hl 0 rfl) ?_
  refine lv_iload_n C.x C.b dL_act_316 rfl (lv_at hl 2 rfl) ?_
  refine lv_iload_n C.x C.b dL_act_317 rfl (lv_at hl 3 rfl) ?_
  refine lv_iload C.x C.b dL_act_318 (lv_at hl 4 rfl) ?_
  refine lv_iload C.x C.b dL_act_320 (lv_at hl 5 rfl) ?_
  rcases hc with ⟨h0, hg⟩ | hn
  · obtain ⟨rm, mc, ms, ⟨q1, q2, q3, q4, q5, q6⟩, hm⟩ := hg
    refine k_calli (va_runV (As := [.int a, .int b, .int x, .int y]) (rest := []) C.1 hm (cwV 4 C.ts (gl_up inv_X8_tell) rfl q1 q2 ⟨rfl, hdA_X8_tell⟩ ⟨by show rm.frames + 1 ≤ 301; omega, by show 8 + (_ + 11) + rm.locals ≤ 20040; omega⟩) (k_preV C hX hh rfl) rfl rfl hl.1 rfl (lv_room (Nat.le_of_ble_eq_true rfl)) dL_act_322 ⟨by show 0 + mc ≤ 8; omega, by show 0 + ms ≤ 64; omega⟩) hX (fun r0 f1 H locs hp hX => ?_)
    obtain ⟨hr0, hI1⟩ := hp
    refine lv_i2l (v := r0.toInt64) C.x C.b dL_act_325 rfl ?_
    refine lv_goto (tgt := 435) C.x C.b dL_act_326 (by decide) ?_
    exact k_lretX C hX hr hlocks hQ (by omega) (by omega) ⟨by rw [rvI_0 h0, hr0], hI1⟩ dL_act_435
  rcases hn.cs with ⟨hk, hg⟩ | ⟨hk, hg⟩ | ⟨hk, hg⟩
  · obtain ⟨rm, mc, ms, ⟨q1, q2, q3, q4, q5, q6⟩, hm⟩ := hg
    refine k_catX C (vx_runV (As := [.int a, .int b, .int x, .int y]) (rest := []) C.1 hm (cwV 4 C.ts (gl_up inv_X8_tell) rfl q1 q2 ⟨rfl, hdA_X8_tell⟩ ⟨by show rm.frames + 1 ≤ 301; omega, by show 8 + (_ + 11) + rm.locals ≤ 20040; omega⟩) (k_preV C hX hh rfl) rfl rfl hl.1 rfl (lv_room (Nat.le_of_ble_eq_true rfl)) dL_act_322 ⟨by show 0 + mc ≤ 8; omega, by show 0 + ms ≤ 64; omega⟩) hX [] (0, 435, 436, 96) [(0, 435, 442, 100), (0, 435, 448, 104)] htab (fun z9 hz9 => by simp at hz9) (by decide) (by decide) lkA_o inA_o (fun q9 f1 H locs hp hX => ?_)
    refine lv_astore (lv' := [(6, .ref q9), (0, .ref h), (1, .int (nI 19)), (2, .int a), (3, .int b), (4, .int x), (5, .int y)]) C.x C.b dL_act_436 hl (by decide) rfl (fun ls hl => ?_)
    refine lv_ldc2 (v := -7000001) C.x C.b C.ow (C.ts _ lkA_c98) dL_act_438 ?_
    exact k_lretX C hX hr hlocks hQ (by omega) (by omega) ⟨by rw [rvI_1 hk], hp⟩ dL_act_441
  · obtain ⟨rm, mc, ms, ⟨q1, q2, q3, q4, q5, q6⟩, hm⟩ := hg
    refine k_catX C (vx_runV (As := [.int a, .int b, .int x, .int y]) (rest := []) C.1 hm (cwV 4 C.ts (gl_up inv_X8_tell) rfl q1 q2 ⟨rfl, hdA_X8_tell⟩ ⟨by show rm.frames + 1 ≤ 301; omega, by show 8 + (_ + 11) + rm.locals ≤ 20040; omega⟩) (k_preV C hX hh rfl) rfl rfl hl.1 rfl (lv_room (Nat.le_of_ble_eq_true rfl)) dL_act_322 ⟨by show 0 + mc ≤ 8; omega, by show 0 + ms ≤ 64; omega⟩) hX [(0, 435, 436, 96)] (0, 435, 442, 100) [(0, 435, 448, 104)] htab (fun z9 hz9 => by
      simp only [List.mem_cons, List.not_mem_nil, or_false] at hz9
      rcases hz9 with rfl
      · exact ⟨by decide, "java/lang/IndexOutOfBoundsException", lkA_o, by decide +kernel⟩) (by decide) (by decide) lkA_a inA_a (fun q9 f1 H locs hp hX => ?_)
    refine lv_astore (lv' := [(6, .ref q9), (0, .ref h), (1, .int (nI 19)), (2, .int a), (3, .int b), (4, .int x), (5, .int y)]) C.x C.b dL_act_442 hl (by decide) rfl (fun ls hl => ?_)
    refine lv_ldc2 (v := -7000002) C.x C.b C.ow (C.ts _ lkA_c102) dL_act_444 ?_
    exact k_lretX C hX hr hlocks hQ (by omega) (by omega) ⟨by rw [rvI_2 hk], hp⟩ dL_act_447
  · obtain ⟨rm, mc, ms, ⟨q1, q2, q3, q4, q5, q6⟩, hm⟩ := hg
    refine k_catX C (vx_runV (As := [.int a, .int b, .int x, .int y]) (rest := []) C.1 hm (cwV 4 C.ts (gl_up inv_X8_tell) rfl q1 q2 ⟨rfl, hdA_X8_tell⟩ ⟨by show rm.frames + 1 ≤ 301; omega, by show 8 + (_ + 11) + rm.locals ≤ 20040; omega⟩) (k_preV C hX hh rfl) rfl rfl hl.1 rfl (lv_room (Nat.le_of_ble_eq_true rfl)) dL_act_322 ⟨by show 0 + mc ≤ 8; omega, by show 0 + ms ≤ 64; omega⟩) hX [(0, 435, 436, 96), (0, 435, 442, 100)] (0, 435, 448, 104) [] htab (fun z9 hz9 => by
      simp only [List.mem_cons, List.not_mem_nil, or_false] at hz9
      rcases hz9 with rfl | rfl
      · exact ⟨by decide, "java/lang/IndexOutOfBoundsException", lkA_o, by decide +kernel⟩
      · exact ⟨by decide, "java/lang/IllegalArgumentException", lkA_a, by decide +kernel⟩) (by decide) (by decide) lkA_s inA_s (fun q9 f1 H locs hp hX => ?_)
    refine lv_astore (lv' := [(6, .ref q9), (0, .ref h), (1, .int (nI 19)), (2, .int a), (3, .int b), (4, .int x), (5, .int y)]) C.x C.b dL_act_448 hl (by decide) rfl (fun ls hl => ?_)
    refine lv_ldc2 (v := -7000003) C.x C.b C.ow (C.ts _ lkA_c106) dL_act_450 ?_
    exact k_lretX C hX hr hlocks hQ (by omega) (by omega) ⟨by rw [rvI_3 hk], hp⟩ dL_act_453
theorem hdA_X8_append : yX8_append.cls ≠ "java/lang/invoke/MethodHandle" ∧ yX8_append.cls ≠ "java/lang/invoke/VarHandle" ∧ (parseMethodDescriptor yX8_append.desc).map (fun d => d.parameters.length) = some 2 := by decide +kernel
set_option maxHeartbeats 2000000 in
theorem act_20 {l : Launch} {G : kG} {B0 h : Nat} {f : kH} (hh : ∃ vs, f h = some (.inr (8, vs))) (a b x y : Int32) {z : Int32} (hz : b = nI 1 ∧ z = nI 1 ∨ ¬ b = nI 1 ∧ z = nI 0) {R : pRI} (hc : cI l G B0 h f yX8_append wsX8_append [.int a, .int z] R) : vx_Met l yL_act wsP_act rmA (kP G B0 f [.ref h, .int (nI 20), .int a, .int b, .int x, .int y]) (kQl G B0 (fun r f1 => r = rvI R ∧ Inv G h f1 R.2.2)) (kXN G B0) 8 64 (kAb B0) := by
  obtain ⟨vs, hh⟩ := hh
  refine kMetH (cc := cL_act) (maxL := 7) (ret := (some .long)) (hh := [(0, 435, 436, 96), (0, 435, 442, 100), (0, 435, 448, 104)]) (by decide) rfl (Nat.le_of_ble_eq_true rfl) ?_
  intro p e s m args below meth c H locs Q ls C hX hl hr hlocks hQ htab
  have hl : lv_has ls 7 [(0, .ref h), (1, .int (nI 20)), (2, .int a), (3, .int b), (4, .int x), (5, .int y)] := hl
  refine lv_iload_n C.x C.b dL_act_0 rfl (lv_at hl 1 rfl) ?_
  refine lv_if_ne (tgt := 13) C.x C.b dL_act_1 (by decide) (fun _ => ?_) (fun q9 => absurd q9 (by decide))
  refine lv_iload_n C.x C.b dL_act_13 rfl (lv_at hl 1 rfl) ?_
  refine lv_iconst (v := nI 1) C.x C.b dL_act_14 (by decide) ?_
  refine lv_icmp_ne (tgt := 28) C.x C.b dL_act_15 (by decide) (fun _ => ?_) (fun q9 => absurd q9 (by decide))
  refine lv_iload_n C.x C.b dL_act_28 rfl (lv_at hl 1 rfl) ?_
  refine lv_iconst (v := nI 2) C.x C.b dL_act_29 (by decide) ?_
  refine lv_icmp_ne (tgt := 43) C.x C.b dL_act_30 (by decide) (fun _ => ?_) (fun q9 => absurd q9 (by decide))
  refine lv_iload_n C.x C.b dL_act_43 rfl (lv_at hl 1 rfl) ?_
  refine lv_iconst (v := nI 3) C.x C.b dL_act_44 (by decide) ?_
  refine lv_icmp_ne (tgt := 58) C.x C.b dL_act_45 (by decide) (fun _ => ?_) (fun q9 => absurd q9 (by decide))
  refine lv_iload_n C.x C.b dL_act_58 rfl (lv_at hl 1 rfl) ?_
  refine lv_iconst (v := nI 4) C.x C.b dL_act_59 (by decide) ?_
  refine lv_icmp_ne (tgt := 72) C.x C.b dL_act_60 (by decide) (fun _ => ?_) (fun q9 => absurd q9 (by decide))
  refine lv_iload_n C.x C.b dL_act_72 rfl (lv_at hl 1 rfl) ?_
  refine lv_iconst (v := nI 5) C.x C.b dL_act_73 (by decide) ?_
  refine lv_icmp_ne (tgt := 89) C.x C.b dL_act_74 (by decide) (fun _ => ?_) (fun q9 => absurd q9 (by decide))
  refine lv_iload_n C.x C.b dL_act_89 rfl (lv_at hl 1 rfl) ?_
  refine lv_bipush (v := nI 6) C.x C.b dL_act_90 (by decide) ?_
  refine lv_icmp_ne (tgt := 109) C.x C.b dL_act_92 (by decide) (fun _ => ?_) (fun q9 => absurd q9 (by decide))
  refine lv_iload_n C.x C.b dL_act_109 rfl (lv_at hl 1 rfl) ?_
  refine lv_bipush (v := nI 7) C.x C.b dL_act_110 (by decide) ?_
  refine lv_icmp_ne (tgt := 125) C.x C.b dL_act_112 (by decide) (fun _ => ?_) (fun q9 => absurd q9 (by decide))
  refine lv_iload_n C.x C.b dL_act_125 rfl (lv_at hl 1 rfl) ?_
  refine lv_bipush (v := nI 8) C.x C.b dL_act_126 (by decide) ?_
  refine lv_icmp_ne (tgt := 140) C.x C.b dL_act_128 (by decide) (fun _ => ?_) (fun q9 => absurd q9 (by decide))
  refine lv_iload_n C.x C.b dL_act_140 rfl (lv_at hl 1 rfl) ?_
  refine lv_bipush (v := nI 9) C.x C.b dL_act_141 (by decide) ?_
  refine lv_icmp_ne (tgt := 160) C.x C.b dL_act_143 (by decide) (fun _ => ?_) (fun q9 => absurd q9 (by decide))
  refine lv_iload_n C.x C.b dL_act_160 rfl (lv_at hl 1 rfl) ?_
  refine lv_bipush (v := nI 10) C.x C.b dL_act_161 (by decide) ?_
  refine lv_icmp_ne (tgt := 175) C.x C.b dL_act_163 (by decide) (fun _ => ?_) (fun q9 => absurd q9 (by decide))
  refine lv_iload_n C.x C.b dL_act_175 rfl (lv_at hl 1 rfl) ?_
  refine lv_bipush (v := nI 11) C.x C.b dL_act_176 (by decide) ?_
  refine lv_icmp_ne (tgt := 190) C.x C.b dL_act_178 (by decide) (fun _ => ?_) (fun q9 => absurd q9 (by decide))
  refine lv_iload_n C.x C.b dL_act_190 rfl (lv_at hl 1 rfl) ?_
  refine lv_bipush (v := nI 12) C.x C.b dL_act_191 (by decide) ?_
  refine lv_icmp_ne (tgt := 206) C.x C.b dL_act_193 (by decide) (fun _ => ?_) (fun q9 => absurd q9 (by decide))
  refine lv_iload_n C.x C.b dL_act_206 rfl (lv_at hl 1 rfl) ?_
  refine lv_bipush (v := nI 13) C.x C.b dL_act_207 (by decide) ?_
  refine lv_icmp_ne (tgt := 221) C.x C.b dL_act_209 (by decide) (fun _ => ?_) (fun q9 => absurd q9 (by decide))
  refine lv_iload_n C.x C.b dL_act_221 rfl (lv_at hl 1 rfl) ?_
  refine lv_bipush (v := nI 14) C.x C.b dL_act_222 (by decide) ?_
  refine lv_icmp_ne (tgt := 237) C.x C.b dL_act_224 (by decide) (fun _ => ?_) (fun q9 => absurd q9 (by decide))
  refine lv_iload_n C.x C.b dL_act_237 rfl (lv_at hl 1 rfl) ?_
  refine lv_bipush (v := nI 15) C.x C.b dL_act_238 (by decide) ?_
  refine lv_icmp_ne (tgt := 253) C.x C.b dL_act_240 (by decide) (fun _ => ?_) (fun q9 => absurd q9 (by decide))
  refine lv_iload_n C.x C.b dL_act_253 rfl (lv_at hl 1 rfl) ?_
  refine lv_bipush (v := nI 16) C.x C.b dL_act_254 (by decide) ?_
  refine lv_icmp_ne (tgt := 269) C.x C.b dL_act_256 (by decide) (fun _ => ?_) (fun q9 => absurd q9 (by decide))
  refine lv_iload_n C.x C.b dL_act_269 rfl (lv_at hl 1 rfl) ?_
  refine lv_bipush (v := nI 17) C.x C.b dL_act_270 (by decide) ?_
  refine lv_icmp_ne (tgt := 289) C.x C.b dL_act_272 (by decide) (fun _ => ?_) (fun q9 => absurd q9 (by decide))
  refine lv_iload_n C.x C.b dL_act_289 rfl (lv_at hl 1 rfl) ?_
  refine lv_bipush (v := nI 18) C.x C.b dL_act_290 (by decide) ?_
  refine lv_icmp_ne (tgt := 309) C.x C.b dL_act_292 (by decide) (fun _ => ?_) (fun q9 => absurd q9 (by decide))
  refine lv_iload_n C.x C.b dL_act_309 rfl (lv_at hl 1 rfl) ?_
  refine lv_bipush (v := nI 19) C.x C.b dL_act_310 (by decide) ?_
  refine lv_icmp_ne (tgt := 329) C.x C.b dL_act_312 (by decide) (fun _ => ?_) (fun q9 => absurd q9 (by decide))
  refine lv_iload_n C.x C.b dL_act_329 rfl (lv_at hl 1 rfl) ?_
  refine lv_bipush (v := nI 20) C.x C.b dL_act_330 (by decide) ?_
  refine lv_icmp_ne (tgt := 354) C.x C.b dL_act_332 (by decide) (fun q9 => absurd rfl q9) (fun _ => ?_)
  refine lv_aload_n C.x C.b dL_act_335 rfl (lv_at hl 0 rfl) ?_
  refine lv_iload_n C.x C.b dL_act_336 rfl (lv_at hl 2 rfl) ?_
  rcases hz with ⟨hz1, rfl⟩ | ⟨hz1, rfl⟩
  · refine lv_iload_n C.x C.b dL_act_337 rfl (lv_at hl 3 rfl) ?_
    refine lv_iconst (v := nI 1) C.x C.b dL_act_338 (by decide) ?_
    refine lv_icmp_ne (tgt := 346) C.x C.b dL_act_339 (by decide) (fun q9 => absurd hz1 q9) (fun _ => ?_)
    refine lv_iconst (v := nI 1) C.x C.b dL_act_342 (by decide) ?_
    refine lv_goto (tgt := 347) C.x C.b dL_act_343 (by decide) ?_
    rcases hc with ⟨h0, hg⟩ | hn
    · obtain ⟨rm, mc, ms, ⟨q1, q2, q3, q4, q5, q6⟩, hm⟩ := hg
      refine k_calli (va_runV (As := [.int a, .int (nI 1)]) (rest := []) C.1 hm (cwV 2 C.ts (gl_up inv_X8_append) rfl q1 q2 ⟨rfl, hdA_X8_append⟩ ⟨by show rm.frames + 1 ≤ 301; omega, by show 8 + (_ + 11) + rm.locals ≤ 20040; omega⟩) (k_preV C hX hh rfl) rfl rfl hl.1 rfl (lv_room (Nat.le_of_ble_eq_true rfl)) dL_act_347 ⟨by show 0 + mc ≤ 8; omega, by show 0 + ms ≤ 64; omega⟩) hX (fun r0 f1 H locs hp hX => ?_)
      obtain ⟨hr0, hI1⟩ := hp
      refine lv_i2l (v := r0.toInt64) C.x C.b dL_act_350 rfl ?_
      refine lv_goto (tgt := 435) C.x C.b dL_act_351 (by decide) ?_
      exact k_lretX C hX hr hlocks hQ (by omega) (by omega) ⟨by rw [rvI_0 h0, hr0], hI1⟩ dL_act_435
    rcases hn.cs with ⟨hk, hg⟩ | ⟨hk, hg⟩ | ⟨hk, hg⟩
    · obtain ⟨rm, mc, ms, ⟨q1, q2, q3, q4, q5, q6⟩, hm⟩ := hg
      refine k_catX C (vx_runV (As := [.int a, .int (nI 1)]) (rest := []) C.1 hm (cwV 2 C.ts (gl_up inv_X8_append) rfl q1 q2 ⟨rfl, hdA_X8_append⟩ ⟨by show rm.frames + 1 ≤ 301; omega, by show 8 + (_ + 11) + rm.locals ≤ 20040; omega⟩) (k_preV C hX hh rfl) rfl rfl hl.1 rfl (lv_room (Nat.le_of_ble_eq_true rfl)) dL_act_347 ⟨by show 0 + mc ≤ 8; omega, by show 0 + ms ≤ 64; omega⟩) hX [] (0, 435, 436, 96) [(0, 435, 442, 100), (0, 435, 448, 104)] htab (fun z9 hz9 => by simp at hz9) (by decide) (by decide) lkA_o inA_o (fun q9 f1 H locs hp hX => ?_)
      refine lv_astore (lv' := [(6, .ref q9), (0, .ref h), (1, .int (nI 20)), (2, .int a), (3, .int b), (4, .int x), (5, .int y)]) C.x C.b dL_act_436 hl (by decide) rfl (fun ls hl => ?_)
      refine lv_ldc2 (v := -7000001) C.x C.b C.ow (C.ts _ lkA_c98) dL_act_438 ?_
      exact k_lretX C hX hr hlocks hQ (by omega) (by omega) ⟨by rw [rvI_1 hk], hp⟩ dL_act_441
    · obtain ⟨rm, mc, ms, ⟨q1, q2, q3, q4, q5, q6⟩, hm⟩ := hg
      refine k_catX C (vx_runV (As := [.int a, .int (nI 1)]) (rest := []) C.1 hm (cwV 2 C.ts (gl_up inv_X8_append) rfl q1 q2 ⟨rfl, hdA_X8_append⟩ ⟨by show rm.frames + 1 ≤ 301; omega, by show 8 + (_ + 11) + rm.locals ≤ 20040; omega⟩) (k_preV C hX hh rfl) rfl rfl hl.1 rfl (lv_room (Nat.le_of_ble_eq_true rfl)) dL_act_347 ⟨by show 0 + mc ≤ 8; omega, by show 0 + ms ≤ 64; omega⟩) hX [(0, 435, 436, 96)] (0, 435, 442, 100) [(0, 435, 448, 104)] htab (fun z9 hz9 => by
        simp only [List.mem_cons, List.not_mem_nil, or_false] at hz9
        rcases hz9 with rfl
        · exact ⟨by decide, "java/lang/IndexOutOfBoundsException", lkA_o, by decide +kernel⟩) (by decide) (by decide) lkA_a inA_a (fun q9 f1 H locs hp hX => ?_)
      refine lv_astore (lv' := [(6, .ref q9), (0, .ref h), (1, .int (nI 20)), (2, .int a), (3, .int b), (4, .int x), (5, .int y)]) C.x C.b dL_act_442 hl (by decide) rfl (fun ls hl => ?_)
      refine lv_ldc2 (v := -7000002) C.x C.b C.ow (C.ts _ lkA_c102) dL_act_444 ?_
      exact k_lretX C hX hr hlocks hQ (by omega) (by omega) ⟨by rw [rvI_2 hk], hp⟩ dL_act_447
    · obtain ⟨rm, mc, ms, ⟨q1, q2, q3, q4, q5, q6⟩, hm⟩ := hg
      refine k_catX C (vx_runV (As := [.int a, .int (nI 1)]) (rest := []) C.1 hm (cwV 2 C.ts (gl_up inv_X8_append) rfl q1 q2 ⟨rfl, hdA_X8_append⟩ ⟨by show rm.frames + 1 ≤ 301; omega, by show 8 + (_ + 11) + rm.locals ≤ 20040; omega⟩) (k_preV C hX hh rfl) rfl rfl hl.1 rfl (lv_room (Nat.le_of_ble_eq_true rfl)) dL_act_347 ⟨by show 0 + mc ≤ 8; omega, by show 0 + ms ≤ 64; omega⟩) hX [(0, 435, 436, 96), (0, 435, 442, 100)] (0, 435, 448, 104) [] htab (fun z9 hz9 => by
        simp only [List.mem_cons, List.not_mem_nil, or_false] at hz9
        rcases hz9 with rfl | rfl
        · exact ⟨by decide, "java/lang/IndexOutOfBoundsException", lkA_o, by decide +kernel⟩
        · exact ⟨by decide, "java/lang/IllegalArgumentException", lkA_a, by decide +kernel⟩) (by decide) (by decide) lkA_s inA_s (fun q9 f1 H locs hp hX => ?_)
      refine lv_astore (lv' := [(6, .ref q9), (0, .ref h), (1, .int (nI 20)), (2, .int a), (3, .int b), (4, .int x), (5, .int y)]) C.x C.b dL_act_448 hl (by decide) rfl (fun ls hl => ?_)
      refine lv_ldc2 (v := -7000003) C.x C.b C.ow (C.ts _ lkA_c106) dL_act_450 ?_
      exact k_lretX C hX hr hlocks hQ (by omega) (by omega) ⟨by rw [rvI_3 hk], hp⟩ dL_act_453
  · refine lv_iload_n C.x C.b dL_act_337 rfl (lv_at hl 3 rfl) ?_
    refine lv_iconst (v := nI 1) C.x C.b dL_act_338 (by decide) ?_
    refine lv_icmp_ne (tgt := 346) C.x C.b dL_act_339 (by decide) (fun _ => ?_) (fun q9 => absurd q9 hz1)
    refine lv_iconst (v := nI 0) C.x C.b dL_act_346 (by decide) ?_
    rcases hc with ⟨h0, hg⟩ | hn
    · obtain ⟨rm, mc, ms, ⟨q1, q2, q3, q4, q5, q6⟩, hm⟩ := hg
      refine k_calli (va_runV (As := [.int a, .int (nI 0)]) (rest := []) C.1 hm (cwV 2 C.ts (gl_up inv_X8_append) rfl q1 q2 ⟨rfl, hdA_X8_append⟩ ⟨by show rm.frames + 1 ≤ 301; omega, by show 8 + (_ + 11) + rm.locals ≤ 20040; omega⟩) (k_preV C hX hh rfl) rfl rfl hl.1 rfl (lv_room (Nat.le_of_ble_eq_true rfl)) dL_act_347 ⟨by show 0 + mc ≤ 8; omega, by show 0 + ms ≤ 64; omega⟩) hX (fun r0 f1 H locs hp hX => ?_)
      obtain ⟨hr0, hI1⟩ := hp
      refine lv_i2l (v := r0.toInt64) C.x C.b dL_act_350 rfl ?_
      refine lv_goto (tgt := 435) C.x C.b dL_act_351 (by decide) ?_
      exact k_lretX C hX hr hlocks hQ (by omega) (by omega) ⟨by rw [rvI_0 h0, hr0], hI1⟩ dL_act_435
    rcases hn.cs with ⟨hk, hg⟩ | ⟨hk, hg⟩ | ⟨hk, hg⟩
    · obtain ⟨rm, mc, ms, ⟨q1, q2, q3, q4, q5, q6⟩, hm⟩ := hg
      refine k_catX C (vx_runV (As := [.int a, .int (nI 0)]) (rest := []) C.1 hm (cwV 2 C.ts (gl_up inv_X8_append) rfl q1 q2 ⟨rfl, hdA_X8_append⟩ ⟨by show rm.frames + 1 ≤ 301; omega, by show 8 + (_ + 11) + rm.locals ≤ 20040; omega⟩) (k_preV C hX hh rfl) rfl rfl hl.1 rfl (lv_room (Nat.le_of_ble_eq_true rfl)) dL_act_347 ⟨by show 0 + mc ≤ 8; omega, by show 0 + ms ≤ 64; omega⟩) hX [] (0, 435, 436, 96) [(0, 435, 442, 100), (0, 435, 448, 104)] htab (fun z9 hz9 => by simp at hz9) (by decide) (by decide) lkA_o inA_o (fun q9 f1 H locs hp hX => ?_)
      refine lv_astore (lv' := [(6, .ref q9), (0, .ref h), (1, .int (nI 20)), (2, .int a), (3, .int b), (4, .int x), (5, .int y)]) C.x C.b dL_act_436 hl (by decide) rfl (fun ls hl => ?_)
      refine lv_ldc2 (v := -7000001) C.x C.b C.ow (C.ts _ lkA_c98) dL_act_438 ?_
      exact k_lretX C hX hr hlocks hQ (by omega) (by omega) ⟨by rw [rvI_1 hk], hp⟩ dL_act_441
    · obtain ⟨rm, mc, ms, ⟨q1, q2, q3, q4, q5, q6⟩, hm⟩ := hg
      refine k_catX C (vx_runV (As := [.int a, .int (nI 0)]) (rest := []) C.1 hm (cwV 2 C.ts (gl_up inv_X8_append) rfl q1 q2 ⟨rfl, hdA_X8_append⟩ ⟨by show rm.frames + 1 ≤ 301; omega, by show 8 + (_ + 11) + rm.locals ≤ 20040; omega⟩) (k_preV C hX hh rfl) rfl rfl hl.1 rfl (lv_room (Nat.le_of_ble_eq_true rfl)) dL_act_347 ⟨by show 0 + mc ≤ 8; omega, by show 0 + ms ≤ 64; omega⟩) hX [(0, 435, 436, 96)] (0, 435, 442, 100) [(0, 435, 448, 104)] htab (fun z9 hz9 => by
        simp only [List.mem_cons, List.not_mem_nil, or_false] at hz9
        rcases hz9 with rfl
        · exact ⟨by decide, "java/lang/IndexOutOfBoundsException", lkA_o, by decide +kernel⟩) (by decide) (by decide) lkA_a inA_a (fun q9 f1 H locs hp hX => ?_)
      refine lv_astore (lv' := [(6, .ref q9), (0, .ref h), (1, .int (nI 20)), (2, .int a), (3, .int b), (4, .int x), (5, .int y)]) C.x C.b dL_act_442 hl (by decide) rfl (fun ls hl => ?_)
      refine lv_ldc2 (v := -7000002) C.x C.b C.ow (C.ts _ lkA_c102) dL_act_444 ?_
      exact k_lretX C hX hr hlocks hQ (by omega) (by omega) ⟨by rw [rvI_2 hk], hp⟩ dL_act_447
    · obtain ⟨rm, mc, ms, ⟨q1, q2, q3, q4, q5, q6⟩, hm⟩ := hg
      refine k_catX C (vx_runV (As := [.int a, .int (nI 0)]) (rest := []) C.1 hm (cwV 2 C.ts (gl_up inv_X8_append) rfl q1 q2 ⟨rfl, hdA_X8_append⟩ ⟨by show rm.frames + 1 ≤ 301; omega, by show 8 + (_ + 11) + rm.locals ≤ 20040; omega⟩) (k_preV C hX hh rfl) rfl rfl hl.1 rfl (lv_room (Nat.le_of_ble_eq_true rfl)) dL_act_347 ⟨by show 0 + mc ≤ 8; omega, by show 0 + ms ≤ 64; omega⟩) hX [(0, 435, 436, 96), (0, 435, 442, 100)] (0, 435, 448, 104) [] htab (fun z9 hz9 => by
        simp only [List.mem_cons, List.not_mem_nil, or_false] at hz9
        rcases hz9 with rfl | rfl
        · exact ⟨by decide, "java/lang/IndexOutOfBoundsException", lkA_o, by decide +kernel⟩
        · exact ⟨by decide, "java/lang/IllegalArgumentException", lkA_a, by decide +kernel⟩) (by decide) (by decide) lkA_s inA_s (fun q9 f1 H locs hp hX => ?_)
      refine lv_astore (lv' := [(6, .ref q9), (0, .ref h), (1, .int (nI 20)), (2, .int a), (3, .int b), (4, .int x), (5, .int y)]) C.x C.b dL_act_448 hl (by decide) rfl (fun ls hl => ?_)
      refine lv_ldc2 (v := -7000003) C.x C.b C.ow (C.ts _ lkA_c106) dL_act_450 ?_
      exact k_lretX C hX hr hlocks hQ (by omega) (by omega) ⟨by rw [rvI_3 hk], hp⟩ dL_act_453
theorem hdA_X8_word : yX8_word.cls ≠ "java/lang/invoke/MethodHandle" ∧ yX8_word.cls ≠ "java/lang/invoke/VarHandle" ∧ (parseMethodDescriptor yX8_word.desc).map (fun d => d.parameters.length) = some 1 := by decide +kernel
set_option maxHeartbeats 2000000 in
theorem act_21 {l : Launch} {G : kG} {B0 h : Nat} {f : kH} (hh : ∃ vs, f h = some (.inr (8, vs))) (a b x y : Int32) {R : pRI} (hc : cI l G B0 h f yX8_word wsX8_word [.int a] R) : vx_Met l yL_act wsP_act rmA (kP G B0 f [.ref h, .int (nI 21), .int a, .int b, .int x, .int y]) (kQl G B0 (fun r f1 => r = rvI R ∧ Inv G h f1 R.2.2)) (kXN G B0) 8 64 (kAb B0) := by
  obtain ⟨vs, hh⟩ := hh
  refine kMetH (cc := cL_act) (maxL := 7) (ret := (some .long)) (hh := [(0, 435, 436, 96), (0, 435, 442, 100), (0, 435, 448, 104)]) (by decide) rfl (Nat.le_of_ble_eq_true rfl) ?_
  intro p e s m args below meth c H locs Q ls C hX hl hr hlocks hQ htab
  have hl : lv_has ls 7 [(0, .ref h), (1, .int (nI 21)), (2, .int a), (3, .int b), (4, .int x), (5, .int y)] := hl
  refine lv_iload_n C.x C.b dL_act_0 rfl (lv_at hl 1 rfl) ?_
  refine lv_if_ne (tgt := 13) C.x C.b dL_act_1 (by decide) (fun _ => ?_) (fun q9 => absurd q9 (by decide))
  refine lv_iload_n C.x C.b dL_act_13 rfl (lv_at hl 1 rfl) ?_
  refine lv_iconst (v := nI 1) C.x C.b dL_act_14 (by decide) ?_
  refine lv_icmp_ne (tgt := 28) C.x C.b dL_act_15 (by decide) (fun _ => ?_) (fun q9 => absurd q9 (by decide))
  refine lv_iload_n C.x C.b dL_act_28 rfl (lv_at hl 1 rfl) ?_
  refine lv_iconst (v := nI 2) C.x C.b dL_act_29 (by decide) ?_
  refine lv_icmp_ne (tgt := 43) C.x C.b dL_act_30 (by decide) (fun _ => ?_) (fun q9 => absurd q9 (by decide))
  refine lv_iload_n C.x C.b dL_act_43 rfl (lv_at hl 1 rfl) ?_
  refine lv_iconst (v := nI 3) C.x C.b dL_act_44 (by decide) ?_
  refine lv_icmp_ne (tgt := 58) C.x C.b dL_act_45 (by decide) (fun _ => ?_) (fun q9 => absurd q9 (by decide))
  refine lv_iload_n C.x C.b dL_act_58 rfl (lv_at hl 1 rfl) ?_
  refine lv_iconst (v := nI 4) C.x C.b dL_act_59 (by decide) ?_
  refine lv_icmp_ne (tgt := 72) C.x C.b dL_act_60 (by decide) (fun _ => ?_) (fun q9 => absurd q9 (by decide))
  refine lv_iload_n C.x C.b dL_act_72 rfl (lv_at hl 1 rfl) ?_
  refine lv_iconst (v := nI 5) C.x C.b dL_act_73 (by decide) ?_
  refine lv_icmp_ne (tgt := 89) C.x C.b dL_act_74 (by decide) (fun _ => ?_) (fun q9 => absurd q9 (by decide))
  refine lv_iload_n C.x C.b dL_act_89 rfl (lv_at hl 1 rfl) ?_
  refine lv_bipush (v := nI 6) C.x C.b dL_act_90 (by decide) ?_
  refine lv_icmp_ne (tgt := 109) C.x C.b dL_act_92 (by decide) (fun _ => ?_) (fun q9 => absurd q9 (by decide))
  refine lv_iload_n C.x C.b dL_act_109 rfl (lv_at hl 1 rfl) ?_
  refine lv_bipush (v := nI 7) C.x C.b dL_act_110 (by decide) ?_
  refine lv_icmp_ne (tgt := 125) C.x C.b dL_act_112 (by decide) (fun _ => ?_) (fun q9 => absurd q9 (by decide))
  refine lv_iload_n C.x C.b dL_act_125 rfl (lv_at hl 1 rfl) ?_
  refine lv_bipush (v := nI 8) C.x C.b dL_act_126 (by decide) ?_
  refine lv_icmp_ne (tgt := 140) C.x C.b dL_act_128 (by decide) (fun _ => ?_) (fun q9 => absurd q9 (by decide))
  refine lv_iload_n C.x C.b dL_act_140 rfl (lv_at hl 1 rfl) ?_
  refine lv_bipush (v := nI 9) C.x C.b dL_act_141 (by decide) ?_
  refine lv_icmp_ne (tgt := 160) C.x C.b dL_act_143 (by decide) (fun _ => ?_) (fun q9 => absurd q9 (by decide))
  refine lv_iload_n C.x C.b dL_act_160 rfl (lv_at hl 1 rfl) ?_
  refine lv_bipush (v := nI 10) C.x C.b dL_act_161 (by decide) ?_
  refine lv_icmp_ne (tgt := 175) C.x C.b dL_act_163 (by decide) (fun _ => ?_) (fun q9 => absurd q9 (by decide))
  refine lv_iload_n C.x C.b dL_act_175 rfl (lv_at hl 1 rfl) ?_
  refine lv_bipush (v := nI 11) C.x C.b dL_act_176 (by decide) ?_
  refine lv_icmp_ne (tgt := 190) C.x C.b dL_act_178 (by decide) (fun _ => ?_) (fun q9 => absurd q9 (by decide))
  refine lv_iload_n C.x C.b dL_act_190 rfl (lv_at hl 1 rfl) ?_
  refine lv_bipush (v := nI 12) C.x C.b dL_act_191 (by decide) ?_
  refine lv_icmp_ne (tgt := 206) C.x C.b dL_act_193 (by decide) (fun _ => ?_) (fun q9 => absurd q9 (by decide))
  refine lv_iload_n C.x C.b dL_act_206 rfl (lv_at hl 1 rfl) ?_
  refine lv_bipush (v := nI 13) C.x C.b dL_act_207 (by decide) ?_
  refine lv_icmp_ne (tgt := 221) C.x C.b dL_act_209 (by decide) (fun _ => ?_) (fun q9 => absurd q9 (by decide))
  refine lv_iload_n C.x C.b dL_act_221 rfl (lv_at hl 1 rfl) ?_
  refine lv_bipush (v := nI 14) C.x C.b dL_act_222 (by decide) ?_
  refine lv_icmp_ne (tgt := 237) C.x C.b dL_act_224 (by decide) (fun _ => ?_) (fun q9 => absurd q9 (by decide))
  refine lv_iload_n C.x C.b dL_act_237 rfl (lv_at hl 1 rfl) ?_
  refine lv_bipush (v := nI 15) C.x C.b dL_act_238 (by decide) ?_
  refine lv_icmp_ne (tgt := 253) C.x C.b dL_act_240 (by decide) (fun _ => ?_) (fun q9 => absurd q9 (by decide))
  refine lv_iload_n C.x C.b dL_act_253 rfl (lv_at hl 1 rfl) ?_
  refine lv_bipush (v := nI 16) C.x C.b dL_act_254 (by decide) ?_
  refine lv_icmp_ne (tgt := 269) C.x C.b dL_act_256 (by decide) (fun _ => ?_) (fun q9 => absurd q9 (by decide))
  refine lv_iload_n C.x C.b dL_act_269 rfl (lv_at hl 1 rfl) ?_
  refine lv_bipush (v := nI 17) C.x C.b dL_act_270 (by decide) ?_
  refine lv_icmp_ne (tgt := 289) C.x C.b dL_act_272 (by decide) (fun _ => ?_) (fun q9 => absurd q9 (by decide))
  refine lv_iload_n C.x C.b dL_act_289 rfl (lv_at hl 1 rfl) ?_
  refine lv_bipush (v := nI 18) C.x C.b dL_act_290 (by decide) ?_
  refine lv_icmp_ne (tgt := 309) C.x C.b dL_act_292 (by decide) (fun _ => ?_) (fun q9 => absurd q9 (by decide))
  refine lv_iload_n C.x C.b dL_act_309 rfl (lv_at hl 1 rfl) ?_
  refine lv_bipush (v := nI 19) C.x C.b dL_act_310 (by decide) ?_
  refine lv_icmp_ne (tgt := 329) C.x C.b dL_act_312 (by decide) (fun _ => ?_) (fun q9 => absurd q9 (by decide))
  refine lv_iload_n C.x C.b dL_act_329 rfl (lv_at hl 1 rfl) ?_
  refine lv_bipush (v := nI 20) C.x C.b dL_act_330 (by decide) ?_
  refine lv_icmp_ne (tgt := 354) C.x C.b dL_act_332 (by decide) (fun _ => ?_) (fun q9 => absurd q9 (by decide))
  refine lv_iload_n C.x C.b dL_act_354 rfl (lv_at hl 1 rfl) ?_
  refine lv_bipush (v := nI 21) C.x C.b dL_act_355 (by decide) ?_
  refine lv_icmp_ne (tgt := 369) C.x C.b dL_act_357 (by decide) (fun q9 => absurd rfl q9) (fun _ => ?_)
  refine lv_aload_n C.x C.b dL_act_360 rfl (lv_at hl 0 rfl) ?_
  refine lv_iload_n C.x C.b dL_act_361 rfl (lv_at hl 2 rfl) ?_
  rcases hc with ⟨h0, hg⟩ | hn
  · obtain ⟨rm, mc, ms, ⟨q1, q2, q3, q4, q5, q6⟩, hm⟩ := hg
    refine k_calli (va_runV (As := [.int a]) (rest := []) C.1 hm (cwV 1 C.ts (gl_up inv_X8_word) rfl q1 q2 ⟨rfl, hdA_X8_word⟩ ⟨by show rm.frames + 1 ≤ 301; omega, by show 8 + (_ + 11) + rm.locals ≤ 20040; omega⟩) (k_preV C hX hh rfl) rfl rfl hl.1 rfl (lv_room (Nat.le_of_ble_eq_true rfl)) dL_act_362 ⟨by show 0 + mc ≤ 8; omega, by show 0 + ms ≤ 64; omega⟩) hX (fun r0 f1 H locs hp hX => ?_)
    obtain ⟨hr0, hI1⟩ := hp
    refine lv_i2l (v := r0.toInt64) C.x C.b dL_act_365 rfl ?_
    refine lv_goto (tgt := 435) C.x C.b dL_act_366 (by decide) ?_
    exact k_lretX C hX hr hlocks hQ (by omega) (by omega) ⟨by rw [rvI_0 h0, hr0], hI1⟩ dL_act_435
  rcases hn.cs with ⟨hk, hg⟩ | ⟨hk, hg⟩ | ⟨hk, hg⟩
  · obtain ⟨rm, mc, ms, ⟨q1, q2, q3, q4, q5, q6⟩, hm⟩ := hg
    refine k_catX C (vx_runV (As := [.int a]) (rest := []) C.1 hm (cwV 1 C.ts (gl_up inv_X8_word) rfl q1 q2 ⟨rfl, hdA_X8_word⟩ ⟨by show rm.frames + 1 ≤ 301; omega, by show 8 + (_ + 11) + rm.locals ≤ 20040; omega⟩) (k_preV C hX hh rfl) rfl rfl hl.1 rfl (lv_room (Nat.le_of_ble_eq_true rfl)) dL_act_362 ⟨by show 0 + mc ≤ 8; omega, by show 0 + ms ≤ 64; omega⟩) hX [] (0, 435, 436, 96) [(0, 435, 442, 100), (0, 435, 448, 104)] htab (fun z9 hz9 => by simp at hz9) (by decide) (by decide) lkA_o inA_o (fun q9 f1 H locs hp hX => ?_)
    refine lv_astore (lv' := [(6, .ref q9), (0, .ref h), (1, .int (nI 21)), (2, .int a), (3, .int b), (4, .int x), (5, .int y)]) C.x C.b dL_act_436 hl (by decide) rfl (fun ls hl => ?_)
    refine lv_ldc2 (v := -7000001) C.x C.b C.ow (C.ts _ lkA_c98) dL_act_438 ?_
    exact k_lretX C hX hr hlocks hQ (by omega) (by omega) ⟨by rw [rvI_1 hk], hp⟩ dL_act_441
  · obtain ⟨rm, mc, ms, ⟨q1, q2, q3, q4, q5, q6⟩, hm⟩ := hg
    refine k_catX C (vx_runV (As := [.int a]) (rest := []) C.1 hm (cwV 1 C.ts (gl_up inv_X8_word) rfl q1 q2 ⟨rfl, hdA_X8_word⟩ ⟨by show rm.frames + 1 ≤ 301; omega, by show 8 + (_ + 11) + rm.locals ≤ 20040; omega⟩) (k_preV C hX hh rfl) rfl rfl hl.1 rfl (lv_room (Nat.le_of_ble_eq_true rfl)) dL_act_362 ⟨by show 0 + mc ≤ 8; omega, by show 0 + ms ≤ 64; omega⟩) hX [(0, 435, 436, 96)] (0, 435, 442, 100) [(0, 435, 448, 104)] htab (fun z9 hz9 => by
      simp only [List.mem_cons, List.not_mem_nil, or_false] at hz9
      rcases hz9 with rfl
      · exact ⟨by decide, "java/lang/IndexOutOfBoundsException", lkA_o, by decide +kernel⟩) (by decide) (by decide) lkA_a inA_a (fun q9 f1 H locs hp hX => ?_)
    refine lv_astore (lv' := [(6, .ref q9), (0, .ref h), (1, .int (nI 21)), (2, .int a), (3, .int b), (4, .int x), (5, .int y)]) C.x C.b dL_act_442 hl (by decide) rfl (fun ls hl => ?_)
    refine lv_ldc2 (v := -7000002) C.x C.b C.ow (C.ts _ lkA_c102) dL_act_444 ?_
    exact k_lretX C hX hr hlocks hQ (by omega) (by omega) ⟨by rw [rvI_2 hk], hp⟩ dL_act_447
  · obtain ⟨rm, mc, ms, ⟨q1, q2, q3, q4, q5, q6⟩, hm⟩ := hg
    refine k_catX C (vx_runV (As := [.int a]) (rest := []) C.1 hm (cwV 1 C.ts (gl_up inv_X8_word) rfl q1 q2 ⟨rfl, hdA_X8_word⟩ ⟨by show rm.frames + 1 ≤ 301; omega, by show 8 + (_ + 11) + rm.locals ≤ 20040; omega⟩) (k_preV C hX hh rfl) rfl rfl hl.1 rfl (lv_room (Nat.le_of_ble_eq_true rfl)) dL_act_362 ⟨by show 0 + mc ≤ 8; omega, by show 0 + ms ≤ 64; omega⟩) hX [(0, 435, 436, 96), (0, 435, 442, 100)] (0, 435, 448, 104) [] htab (fun z9 hz9 => by
      simp only [List.mem_cons, List.not_mem_nil, or_false] at hz9
      rcases hz9 with rfl | rfl
      · exact ⟨by decide, "java/lang/IndexOutOfBoundsException", lkA_o, by decide +kernel⟩
      · exact ⟨by decide, "java/lang/IllegalArgumentException", lkA_a, by decide +kernel⟩) (by decide) (by decide) lkA_s inA_s (fun q9 f1 H locs hp hX => ?_)
    refine lv_astore (lv' := [(6, .ref q9), (0, .ref h), (1, .int (nI 21)), (2, .int a), (3, .int b), (4, .int x), (5, .int y)]) C.x C.b dL_act_448 hl (by decide) rfl (fun ls hl => ?_)
    refine lv_ldc2 (v := -7000003) C.x C.b C.ow (C.ts _ lkA_c106) dL_act_450 ?_
    exact k_lretX C hX hr hlocks hQ (by omega) (by omega) ⟨by rw [rvI_3 hk], hp⟩ dL_act_453
theorem hdA_X8_image : yX8_image.cls ≠ "java/lang/invoke/MethodHandle" ∧ yX8_image.cls ≠ "java/lang/invoke/VarHandle" ∧ (parseMethodDescriptor yX8_image.desc).map (fun d => d.parameters.length) = some 3 := by decide +kernel
set_option maxHeartbeats 2000000 in
theorem act_22 {l : Launch} {G : kG} {B0 h : Nat} {f : kH} (hh : ∃ vs, f h = some (.inr (8, vs))) (a b x y : Int32) {z : Int32} (hz : x = nI 1 ∧ z = nI 1 ∨ ¬ x = nI 1 ∧ z = nI 0) {R : pRJ} (hc : cJ l G B0 h f yX8_image wsX8_image [.int a, .int b, .int z] R) : vx_Met l yL_act wsP_act rmA (kP G B0 f [.ref h, .int (nI 22), .int a, .int b, .int x, .int y]) (kQl G B0 (fun r f1 => r = rvJ R ∧ Inv G h f1 R.2.2)) (kXN G B0) 8 64 (kAb B0) := by
  obtain ⟨vs, hh⟩ := hh
  refine kMetH (cc := cL_act) (maxL := 7) (ret := (some .long)) (hh := [(0, 435, 436, 96), (0, 435, 442, 100), (0, 435, 448, 104)]) (by decide) rfl (Nat.le_of_ble_eq_true rfl) ?_
  intro p e s m args below meth c H locs Q ls C hX hl hr hlocks hQ htab
  have hl : lv_has ls 7 [(0, .ref h), (1, .int (nI 22)), (2, .int a), (3, .int b), (4, .int x), (5, .int y)] := hl
  refine lv_iload_n C.x C.b dL_act_0 rfl (lv_at hl 1 rfl) ?_
  refine lv_if_ne (tgt := 13) C.x C.b dL_act_1 (by decide) (fun _ => ?_) (fun q9 => absurd q9 (by decide))
  refine lv_iload_n C.x C.b dL_act_13 rfl (lv_at hl 1 rfl) ?_
  refine lv_iconst (v := nI 1) C.x C.b dL_act_14 (by decide) ?_
  refine lv_icmp_ne (tgt := 28) C.x C.b dL_act_15 (by decide) (fun _ => ?_) (fun q9 => absurd q9 (by decide))
  refine lv_iload_n C.x C.b dL_act_28 rfl (lv_at hl 1 rfl) ?_
  refine lv_iconst (v := nI 2) C.x C.b dL_act_29 (by decide) ?_
  refine lv_icmp_ne (tgt := 43) C.x C.b dL_act_30 (by decide) (fun _ => ?_) (fun q9 => absurd q9 (by decide))
  refine lv_iload_n C.x C.b dL_act_43 rfl (lv_at hl 1 rfl) ?_
  refine lv_iconst (v := nI 3) C.x C.b dL_act_44 (by decide) ?_
  refine lv_icmp_ne (tgt := 58) C.x C.b dL_act_45 (by decide) (fun _ => ?_) (fun q9 => absurd q9 (by decide))
  refine lv_iload_n C.x C.b dL_act_58 rfl (lv_at hl 1 rfl) ?_
  refine lv_iconst (v := nI 4) C.x C.b dL_act_59 (by decide) ?_
  refine lv_icmp_ne (tgt := 72) C.x C.b dL_act_60 (by decide) (fun _ => ?_) (fun q9 => absurd q9 (by decide))
  refine lv_iload_n C.x C.b dL_act_72 rfl (lv_at hl 1 rfl) ?_
  refine lv_iconst (v := nI 5) C.x C.b dL_act_73 (by decide) ?_
  refine lv_icmp_ne (tgt := 89) C.x C.b dL_act_74 (by decide) (fun _ => ?_) (fun q9 => absurd q9 (by decide))
  refine lv_iload_n C.x C.b dL_act_89 rfl (lv_at hl 1 rfl) ?_
  refine lv_bipush (v := nI 6) C.x C.b dL_act_90 (by decide) ?_
  refine lv_icmp_ne (tgt := 109) C.x C.b dL_act_92 (by decide) (fun _ => ?_) (fun q9 => absurd q9 (by decide))
  refine lv_iload_n C.x C.b dL_act_109 rfl (lv_at hl 1 rfl) ?_
  refine lv_bipush (v := nI 7) C.x C.b dL_act_110 (by decide) ?_
  refine lv_icmp_ne (tgt := 125) C.x C.b dL_act_112 (by decide) (fun _ => ?_) (fun q9 => absurd q9 (by decide))
  refine lv_iload_n C.x C.b dL_act_125 rfl (lv_at hl 1 rfl) ?_
  refine lv_bipush (v := nI 8) C.x C.b dL_act_126 (by decide) ?_
  refine lv_icmp_ne (tgt := 140) C.x C.b dL_act_128 (by decide) (fun _ => ?_) (fun q9 => absurd q9 (by decide))
  refine lv_iload_n C.x C.b dL_act_140 rfl (lv_at hl 1 rfl) ?_
  refine lv_bipush (v := nI 9) C.x C.b dL_act_141 (by decide) ?_
  refine lv_icmp_ne (tgt := 160) C.x C.b dL_act_143 (by decide) (fun _ => ?_) (fun q9 => absurd q9 (by decide))
  refine lv_iload_n C.x C.b dL_act_160 rfl (lv_at hl 1 rfl) ?_
  refine lv_bipush (v := nI 10) C.x C.b dL_act_161 (by decide) ?_
  refine lv_icmp_ne (tgt := 175) C.x C.b dL_act_163 (by decide) (fun _ => ?_) (fun q9 => absurd q9 (by decide))
  refine lv_iload_n C.x C.b dL_act_175 rfl (lv_at hl 1 rfl) ?_
  refine lv_bipush (v := nI 11) C.x C.b dL_act_176 (by decide) ?_
  refine lv_icmp_ne (tgt := 190) C.x C.b dL_act_178 (by decide) (fun _ => ?_) (fun q9 => absurd q9 (by decide))
  refine lv_iload_n C.x C.b dL_act_190 rfl (lv_at hl 1 rfl) ?_
  refine lv_bipush (v := nI 12) C.x C.b dL_act_191 (by decide) ?_
  refine lv_icmp_ne (tgt := 206) C.x C.b dL_act_193 (by decide) (fun _ => ?_) (fun q9 => absurd q9 (by decide))
  refine lv_iload_n C.x C.b dL_act_206 rfl (lv_at hl 1 rfl) ?_
  refine lv_bipush (v := nI 13) C.x C.b dL_act_207 (by decide) ?_
  refine lv_icmp_ne (tgt := 221) C.x C.b dL_act_209 (by decide) (fun _ => ?_) (fun q9 => absurd q9 (by decide))
  refine lv_iload_n C.x C.b dL_act_221 rfl (lv_at hl 1 rfl) ?_
  refine lv_bipush (v := nI 14) C.x C.b dL_act_222 (by decide) ?_
  refine lv_icmp_ne (tgt := 237) C.x C.b dL_act_224 (by decide) (fun _ => ?_) (fun q9 => absurd q9 (by decide))
  refine lv_iload_n C.x C.b dL_act_237 rfl (lv_at hl 1 rfl) ?_
  refine lv_bipush (v := nI 15) C.x C.b dL_act_238 (by decide) ?_
  refine lv_icmp_ne (tgt := 253) C.x C.b dL_act_240 (by decide) (fun _ => ?_) (fun q9 => absurd q9 (by decide))
  refine lv_iload_n C.x C.b dL_act_253 rfl (lv_at hl 1 rfl) ?_
  refine lv_bipush (v := nI 16) C.x C.b dL_act_254 (by decide) ?_
  refine lv_icmp_ne (tgt := 269) C.x C.b dL_act_256 (by decide) (fun _ => ?_) (fun q9 => absurd q9 (by decide))
  refine lv_iload_n C.x C.b dL_act_269 rfl (lv_at hl 1 rfl) ?_
  refine lv_bipush (v := nI 17) C.x C.b dL_act_270 (by decide) ?_
  refine lv_icmp_ne (tgt := 289) C.x C.b dL_act_272 (by decide) (fun _ => ?_) (fun q9 => absurd q9 (by decide))
  refine lv_iload_n C.x C.b dL_act_289 rfl (lv_at hl 1 rfl) ?_
  refine lv_bipush (v := nI 18) C.x C.b dL_act_290 (by decide) ?_
  refine lv_icmp_ne (tgt := 309) C.x C.b dL_act_292 (by decide) (fun _ => ?_) (fun q9 => absurd q9 (by decide))
  refine lv_iload_n C.x C.b dL_act_309 rfl (lv_at hl 1 rfl) ?_
  refine lv_bipush (v := nI 19) C.x C.b dL_act_310 (by decide) ?_
  refine lv_icmp_ne (tgt := 329) C.x C.b dL_act_312 (by decide) (fun _ => ?_) (fun q9 => absurd q9 (by decide))
  refine lv_iload_n C.x C.b dL_act_329 rfl (lv_at hl 1 rfl) ?_
  refine lv_bipush (v := nI 20) C.x C.b dL_act_330 (by decide) ?_
  refine lv_icmp_ne (tgt := 354) C.x C.b dL_act_332 (by decide) (fun _ => ?_) (fun q9 => absurd q9 (by decide))
  refine lv_iload_n C.x C.b dL_act_354 rfl (lv_at hl 1 rfl) ?_
  refine lv_bipush (v := nI 21) C.x C.b dL_act_355 (by decide) ?_
  refine lv_icmp_ne (tgt := 369) C.x C.b dL_act_357 (by decide) (fun _ => ?_) (fun q9 => absurd q9 (by decide))
  refine lv_iload_n C.x C.b dL_act_369 rfl (lv_at hl 1 rfl) ?_
  refine lv_bipush (v := nI 22) C.x C.b dL_act_370 (by decide) ?_
  refine lv_icmp_ne (tgt := 395) C.x C.b dL_act_372 (by decide) (fun q9 => absurd rfl q9) (fun _ => ?_)
  refine lv_aload_n C.x C.b dL_act_375 rfl (lv_at hl 0 rfl) ?_
  refine lv_iload_n C.x C.b dL_act_376 rfl (lv_at hl 2 rfl) ?_
  refine lv_iload_n C.x C.b dL_act_377 rfl (lv_at hl 3 rfl) ?_
  rcases hz with ⟨hz1, rfl⟩ | ⟨hz1, rfl⟩
  · refine lv_iload C.x C.b dL_act_378 (lv_at hl 4 rfl) ?_
    refine lv_iconst (v := nI 1) C.x C.b dL_act_380 (by decide) ?_
    refine lv_icmp_ne (tgt := 388) C.x C.b dL_act_381 (by decide) (fun q9 => absurd hz1 q9) (fun _ => ?_)
    refine lv_iconst (v := nI 1) C.x C.b dL_act_384 (by decide) ?_
    refine lv_goto (tgt := 389) C.x C.b dL_act_385 (by decide) ?_
    rcases hc with ⟨h0, hg⟩ | hn
    · obtain ⟨rm, mc, ms, ⟨q1, q2, q3, q4, q5, q6⟩, hm⟩ := hg
      refine k_calll (va_runV (As := [.int a, .int b, .int (nI 1)]) (rest := []) C.1 hm (cwV 3 C.ts (gl_up inv_X8_image) rfl q1 q2 ⟨rfl, hdA_X8_image⟩ ⟨by show rm.frames + 1 ≤ 301; omega, by show 8 + (_ + 11) + rm.locals ≤ 20040; omega⟩) (k_preV C hX hh rfl) rfl rfl hl.1 rfl (lv_room (Nat.le_of_ble_eq_true rfl)) dL_act_389 ⟨by show 0 + mc ≤ 8; omega, by show 0 + ms ≤ 64; omega⟩) hX (fun r0 f1 H locs hp hX => ?_)
      obtain ⟨hr0, hI1⟩ := hp
      refine lv_goto (tgt := 435) C.x C.b dL_act_392 (by decide) ?_
      exact k_lretX C hX hr hlocks hQ (by omega) (by omega) ⟨by rw [rvJ_0 h0, hr0], hI1⟩ dL_act_435
    rcases hn.cs with ⟨hk, hg⟩ | ⟨hk, hg⟩ | ⟨hk, hg⟩
    · obtain ⟨rm, mc, ms, ⟨q1, q2, q3, q4, q5, q6⟩, hm⟩ := hg
      refine k_catX C (vx_runV (As := [.int a, .int b, .int (nI 1)]) (rest := []) C.1 hm (cwV 3 C.ts (gl_up inv_X8_image) rfl q1 q2 ⟨rfl, hdA_X8_image⟩ ⟨by show rm.frames + 1 ≤ 301; omega, by show 8 + (_ + 11) + rm.locals ≤ 20040; omega⟩) (k_preV C hX hh rfl) rfl rfl hl.1 rfl (lv_room (Nat.le_of_ble_eq_true rfl)) dL_act_389 ⟨by show 0 + mc ≤ 8; omega, by show 0 + ms ≤ 64; omega⟩) hX [] (0, 435, 436, 96) [(0, 435, 442, 100), (0, 435, 448, 104)] htab (fun z9 hz9 => by simp at hz9) (by decide) (by decide) lkA_o inA_o (fun q9 f1 H locs hp hX => ?_)
      refine lv_astore (lv' := [(6, .ref q9), (0, .ref h), (1, .int (nI 22)), (2, .int a), (3, .int b), (4, .int x), (5, .int y)]) C.x C.b dL_act_436 hl (by decide) rfl (fun ls hl => ?_)
      refine lv_ldc2 (v := -7000001) C.x C.b C.ow (C.ts _ lkA_c98) dL_act_438 ?_
      exact k_lretX C hX hr hlocks hQ (by omega) (by omega) ⟨by rw [rvJ_1 hk], hp⟩ dL_act_441
    · obtain ⟨rm, mc, ms, ⟨q1, q2, q3, q4, q5, q6⟩, hm⟩ := hg
      refine k_catX C (vx_runV (As := [.int a, .int b, .int (nI 1)]) (rest := []) C.1 hm (cwV 3 C.ts (gl_up inv_X8_image) rfl q1 q2 ⟨rfl, hdA_X8_image⟩ ⟨by show rm.frames + 1 ≤ 301; omega, by show 8 + (_ + 11) + rm.locals ≤ 20040; omega⟩) (k_preV C hX hh rfl) rfl rfl hl.1 rfl (lv_room (Nat.le_of_ble_eq_true rfl)) dL_act_389 ⟨by show 0 + mc ≤ 8; omega, by show 0 + ms ≤ 64; omega⟩) hX [(0, 435, 436, 96)] (0, 435, 442, 100) [(0, 435, 448, 104)] htab (fun z9 hz9 => by
        simp only [List.mem_cons, List.not_mem_nil, or_false] at hz9
        rcases hz9 with rfl
        · exact ⟨by decide, "java/lang/IndexOutOfBoundsException", lkA_o, by decide +kernel⟩) (by decide) (by decide) lkA_a inA_a (fun q9 f1 H locs hp hX => ?_)
      refine lv_astore (lv' := [(6, .ref q9), (0, .ref h), (1, .int (nI 22)), (2, .int a), (3, .int b), (4, .int x), (5, .int y)]) C.x C.b dL_act_442 hl (by decide) rfl (fun ls hl => ?_)
      refine lv_ldc2 (v := -7000002) C.x C.b C.ow (C.ts _ lkA_c102) dL_act_444 ?_
      exact k_lretX C hX hr hlocks hQ (by omega) (by omega) ⟨by rw [rvJ_2 hk], hp⟩ dL_act_447
    · obtain ⟨rm, mc, ms, ⟨q1, q2, q3, q4, q5, q6⟩, hm⟩ := hg
      refine k_catX C (vx_runV (As := [.int a, .int b, .int (nI 1)]) (rest := []) C.1 hm (cwV 3 C.ts (gl_up inv_X8_image) rfl q1 q2 ⟨rfl, hdA_X8_image⟩ ⟨by show rm.frames + 1 ≤ 301; omega, by show 8 + (_ + 11) + rm.locals ≤ 20040; omega⟩) (k_preV C hX hh rfl) rfl rfl hl.1 rfl (lv_room (Nat.le_of_ble_eq_true rfl)) dL_act_389 ⟨by show 0 + mc ≤ 8; omega, by show 0 + ms ≤ 64; omega⟩) hX [(0, 435, 436, 96), (0, 435, 442, 100)] (0, 435, 448, 104) [] htab (fun z9 hz9 => by
        simp only [List.mem_cons, List.not_mem_nil, or_false] at hz9
        rcases hz9 with rfl | rfl
        · exact ⟨by decide, "java/lang/IndexOutOfBoundsException", lkA_o, by decide +kernel⟩
        · exact ⟨by decide, "java/lang/IllegalArgumentException", lkA_a, by decide +kernel⟩) (by decide) (by decide) lkA_s inA_s (fun q9 f1 H locs hp hX => ?_)
      refine lv_astore (lv' := [(6, .ref q9), (0, .ref h), (1, .int (nI 22)), (2, .int a), (3, .int b), (4, .int x), (5, .int y)]) C.x C.b dL_act_448 hl (by decide) rfl (fun ls hl => ?_)
      refine lv_ldc2 (v := -7000003) C.x C.b C.ow (C.ts _ lkA_c106) dL_act_450 ?_
      exact k_lretX C hX hr hlocks hQ (by omega) (by omega) ⟨by rw [rvJ_3 hk], hp⟩ dL_act_453
  · refine lv_iload C.x C.b dL_act_378 (lv_at hl 4 rfl) ?_
    refine lv_iconst (v := nI 1) C.x C.b dL_act_380 (by decide) ?_
    refine lv_icmp_ne (tgt := 388) C.x C.b dL_act_381 (by decide) (fun _ => ?_) (fun q9 => absurd q9 hz1)
    refine lv_iconst (v := nI 0) C.x C.b dL_act_388 (by decide) ?_
    rcases hc with ⟨h0, hg⟩ | hn
    · obtain ⟨rm, mc, ms, ⟨q1, q2, q3, q4, q5, q6⟩, hm⟩ := hg
      refine k_calll (va_runV (As := [.int a, .int b, .int (nI 0)]) (rest := []) C.1 hm (cwV 3 C.ts (gl_up inv_X8_image) rfl q1 q2 ⟨rfl, hdA_X8_image⟩ ⟨by show rm.frames + 1 ≤ 301; omega, by show 8 + (_ + 11) + rm.locals ≤ 20040; omega⟩) (k_preV C hX hh rfl) rfl rfl hl.1 rfl (lv_room (Nat.le_of_ble_eq_true rfl)) dL_act_389 ⟨by show 0 + mc ≤ 8; omega, by show 0 + ms ≤ 64; omega⟩) hX (fun r0 f1 H locs hp hX => ?_)
      obtain ⟨hr0, hI1⟩ := hp
      refine lv_goto (tgt := 435) C.x C.b dL_act_392 (by decide) ?_
      exact k_lretX C hX hr hlocks hQ (by omega) (by omega) ⟨by rw [rvJ_0 h0, hr0], hI1⟩ dL_act_435
    rcases hn.cs with ⟨hk, hg⟩ | ⟨hk, hg⟩ | ⟨hk, hg⟩
    · obtain ⟨rm, mc, ms, ⟨q1, q2, q3, q4, q5, q6⟩, hm⟩ := hg
      refine k_catX C (vx_runV (As := [.int a, .int b, .int (nI 0)]) (rest := []) C.1 hm (cwV 3 C.ts (gl_up inv_X8_image) rfl q1 q2 ⟨rfl, hdA_X8_image⟩ ⟨by show rm.frames + 1 ≤ 301; omega, by show 8 + (_ + 11) + rm.locals ≤ 20040; omega⟩) (k_preV C hX hh rfl) rfl rfl hl.1 rfl (lv_room (Nat.le_of_ble_eq_true rfl)) dL_act_389 ⟨by show 0 + mc ≤ 8; omega, by show 0 + ms ≤ 64; omega⟩) hX [] (0, 435, 436, 96) [(0, 435, 442, 100), (0, 435, 448, 104)] htab (fun z9 hz9 => by simp at hz9) (by decide) (by decide) lkA_o inA_o (fun q9 f1 H locs hp hX => ?_)
      refine lv_astore (lv' := [(6, .ref q9), (0, .ref h), (1, .int (nI 22)), (2, .int a), (3, .int b), (4, .int x), (5, .int y)]) C.x C.b dL_act_436 hl (by decide) rfl (fun ls hl => ?_)
      refine lv_ldc2 (v := -7000001) C.x C.b C.ow (C.ts _ lkA_c98) dL_act_438 ?_
      exact k_lretX C hX hr hlocks hQ (by omega) (by omega) ⟨by rw [rvJ_1 hk], hp⟩ dL_act_441
    · obtain ⟨rm, mc, ms, ⟨q1, q2, q3, q4, q5, q6⟩, hm⟩ := hg
      refine k_catX C (vx_runV (As := [.int a, .int b, .int (nI 0)]) (rest := []) C.1 hm (cwV 3 C.ts (gl_up inv_X8_image) rfl q1 q2 ⟨rfl, hdA_X8_image⟩ ⟨by show rm.frames + 1 ≤ 301; omega, by show 8 + (_ + 11) + rm.locals ≤ 20040; omega⟩) (k_preV C hX hh rfl) rfl rfl hl.1 rfl (lv_room (Nat.le_of_ble_eq_true rfl)) dL_act_389 ⟨by show 0 + mc ≤ 8; omega, by show 0 + ms ≤ 64; omega⟩) hX [(0, 435, 436, 96)] (0, 435, 442, 100) [(0, 435, 448, 104)] htab (fun z9 hz9 => by
        simp only [List.mem_cons, List.not_mem_nil, or_false] at hz9
        rcases hz9 with rfl
        · exact ⟨by decide, "java/lang/IndexOutOfBoundsException", lkA_o, by decide +kernel⟩) (by decide) (by decide) lkA_a inA_a (fun q9 f1 H locs hp hX => ?_)
      refine lv_astore (lv' := [(6, .ref q9), (0, .ref h), (1, .int (nI 22)), (2, .int a), (3, .int b), (4, .int x), (5, .int y)]) C.x C.b dL_act_442 hl (by decide) rfl (fun ls hl => ?_)
      refine lv_ldc2 (v := -7000002) C.x C.b C.ow (C.ts _ lkA_c102) dL_act_444 ?_
      exact k_lretX C hX hr hlocks hQ (by omega) (by omega) ⟨by rw [rvJ_2 hk], hp⟩ dL_act_447
    · obtain ⟨rm, mc, ms, ⟨q1, q2, q3, q4, q5, q6⟩, hm⟩ := hg
      refine k_catX C (vx_runV (As := [.int a, .int b, .int (nI 0)]) (rest := []) C.1 hm (cwV 3 C.ts (gl_up inv_X8_image) rfl q1 q2 ⟨rfl, hdA_X8_image⟩ ⟨by show rm.frames + 1 ≤ 301; omega, by show 8 + (_ + 11) + rm.locals ≤ 20040; omega⟩) (k_preV C hX hh rfl) rfl rfl hl.1 rfl (lv_room (Nat.le_of_ble_eq_true rfl)) dL_act_389 ⟨by show 0 + mc ≤ 8; omega, by show 0 + ms ≤ 64; omega⟩) hX [(0, 435, 436, 96), (0, 435, 442, 100)] (0, 435, 448, 104) [] htab (fun z9 hz9 => by
        simp only [List.mem_cons, List.not_mem_nil, or_false] at hz9
        rcases hz9 with rfl | rfl
        · exact ⟨by decide, "java/lang/IndexOutOfBoundsException", lkA_o, by decide +kernel⟩
        · exact ⟨by decide, "java/lang/IllegalArgumentException", lkA_a, by decide +kernel⟩) (by decide) (by decide) lkA_s inA_s (fun q9 f1 H locs hp hX => ?_)
      refine lv_astore (lv' := [(6, .ref q9), (0, .ref h), (1, .int (nI 22)), (2, .int a), (3, .int b), (4, .int x), (5, .int y)]) C.x C.b dL_act_448 hl (by decide) rfl (fun ls hl => ?_)
      refine lv_ldc2 (v := -7000003) C.x C.b C.ow (C.ts _ lkA_c106) dL_act_450 ?_
      exact k_lretX C hX hr hlocks hQ (by omega) (by omega) ⟨by rw [rvJ_3 hk], hp⟩ dL_act_453
theorem hdA_X8_nodes : yX8_nodes.cls ≠ "java/lang/invoke/MethodHandle" ∧ yX8_nodes.cls ≠ "java/lang/invoke/VarHandle" ∧ (parseMethodDescriptor yX8_nodes.desc).map (fun d => d.parameters.length) = some 1 := by decide +kernel
set_option maxHeartbeats 2000000 in
theorem act_23 {l : Launch} {G : kG} {B0 h : Nat} {f : kH} (hh : ∃ vs, f h = some (.inr (8, vs))) (a b x y : Int32) {R : pRI} (hc : cI l G B0 h f yX8_nodes wsX8_nodes [.int a] R) : vx_Met l yL_act wsP_act rmA (kP G B0 f [.ref h, .int (nI 23), .int a, .int b, .int x, .int y]) (kQl G B0 (fun r f1 => r = rvI R ∧ Inv G h f1 R.2.2)) (kXN G B0) 8 64 (kAb B0) := by
  obtain ⟨vs, hh⟩ := hh
  refine kMetH (cc := cL_act) (maxL := 7) (ret := (some .long)) (hh := [(0, 435, 436, 96), (0, 435, 442, 100), (0, 435, 448, 104)]) (by decide) rfl (Nat.le_of_ble_eq_true rfl) ?_
  intro p e s m args below meth c H locs Q ls C hX hl hr hlocks hQ htab
  have hl : lv_has ls 7 [(0, .ref h), (1, .int (nI 23)), (2, .int a), (3, .int b), (4, .int x), (5, .int y)] := hl
  refine lv_iload_n C.x C.b dL_act_0 rfl (lv_at hl 1 rfl) ?_
  refine lv_if_ne (tgt := 13) C.x C.b dL_act_1 (by decide) (fun _ => ?_) (fun q9 => absurd q9 (by decide))
  refine lv_iload_n C.x C.b dL_act_13 rfl (lv_at hl 1 rfl) ?_
  refine lv_iconst (v := nI 1) C.x C.b dL_act_14 (by decide) ?_
  refine lv_icmp_ne (tgt := 28) C.x C.b dL_act_15 (by decide) (fun _ => ?_) (fun q9 => absurd q9 (by decide))
  refine lv_iload_n C.x C.b dL_act_28 rfl (lv_at hl 1 rfl) ?_
  refine lv_iconst (v := nI 2) C.x C.b dL_act_29 (by decide) ?_
  refine lv_icmp_ne (tgt := 43) C.x C.b dL_act_30 (by decide) (fun _ => ?_) (fun q9 => absurd q9 (by decide))
  refine lv_iload_n C.x C.b dL_act_43 rfl (lv_at hl 1 rfl) ?_
  refine lv_iconst (v := nI 3) C.x C.b dL_act_44 (by decide) ?_
  refine lv_icmp_ne (tgt := 58) C.x C.b dL_act_45 (by decide) (fun _ => ?_) (fun q9 => absurd q9 (by decide))
  refine lv_iload_n C.x C.b dL_act_58 rfl (lv_at hl 1 rfl) ?_
  refine lv_iconst (v := nI 4) C.x C.b dL_act_59 (by decide) ?_
  refine lv_icmp_ne (tgt := 72) C.x C.b dL_act_60 (by decide) (fun _ => ?_) (fun q9 => absurd q9 (by decide))
  refine lv_iload_n C.x C.b dL_act_72 rfl (lv_at hl 1 rfl) ?_
  refine lv_iconst (v := nI 5) C.x C.b dL_act_73 (by decide) ?_
  refine lv_icmp_ne (tgt := 89) C.x C.b dL_act_74 (by decide) (fun _ => ?_) (fun q9 => absurd q9 (by decide))
  refine lv_iload_n C.x C.b dL_act_89 rfl (lv_at hl 1 rfl) ?_
  refine lv_bipush (v := nI 6) C.x C.b dL_act_90 (by decide) ?_
  refine lv_icmp_ne (tgt := 109) C.x C.b dL_act_92 (by decide) (fun _ => ?_) (fun q9 => absurd q9 (by decide))
  refine lv_iload_n C.x C.b dL_act_109 rfl (lv_at hl 1 rfl) ?_
  refine lv_bipush (v := nI 7) C.x C.b dL_act_110 (by decide) ?_
  refine lv_icmp_ne (tgt := 125) C.x C.b dL_act_112 (by decide) (fun _ => ?_) (fun q9 => absurd q9 (by decide))
  refine lv_iload_n C.x C.b dL_act_125 rfl (lv_at hl 1 rfl) ?_
  refine lv_bipush (v := nI 8) C.x C.b dL_act_126 (by decide) ?_
  refine lv_icmp_ne (tgt := 140) C.x C.b dL_act_128 (by decide) (fun _ => ?_) (fun q9 => absurd q9 (by decide))
  refine lv_iload_n C.x C.b dL_act_140 rfl (lv_at hl 1 rfl) ?_
  refine lv_bipush (v := nI 9) C.x C.b dL_act_141 (by decide) ?_
  refine lv_icmp_ne (tgt := 160) C.x C.b dL_act_143 (by decide) (fun _ => ?_) (fun q9 => absurd q9 (by decide))
  refine lv_iload_n C.x C.b dL_act_160 rfl (lv_at hl 1 rfl) ?_
  refine lv_bipush (v := nI 10) C.x C.b dL_act_161 (by decide) ?_
  refine lv_icmp_ne (tgt := 175) C.x C.b dL_act_163 (by decide) (fun _ => ?_) (fun q9 => absurd q9 (by decide))
  refine lv_iload_n C.x C.b dL_act_175 rfl (lv_at hl 1 rfl) ?_
  refine lv_bipush (v := nI 11) C.x C.b dL_act_176 (by decide) ?_
  refine lv_icmp_ne (tgt := 190) C.x C.b dL_act_178 (by decide) (fun _ => ?_) (fun q9 => absurd q9 (by decide))
  refine lv_iload_n C.x C.b dL_act_190 rfl (lv_at hl 1 rfl) ?_
  refine lv_bipush (v := nI 12) C.x C.b dL_act_191 (by decide) ?_
  refine lv_icmp_ne (tgt := 206) C.x C.b dL_act_193 (by decide) (fun _ => ?_) (fun q9 => absurd q9 (by decide))
  refine lv_iload_n C.x C.b dL_act_206 rfl (lv_at hl 1 rfl) ?_
  refine lv_bipush (v := nI 13) C.x C.b dL_act_207 (by decide) ?_
  refine lv_icmp_ne (tgt := 221) C.x C.b dL_act_209 (by decide) (fun _ => ?_) (fun q9 => absurd q9 (by decide))
  refine lv_iload_n C.x C.b dL_act_221 rfl (lv_at hl 1 rfl) ?_
  refine lv_bipush (v := nI 14) C.x C.b dL_act_222 (by decide) ?_
  refine lv_icmp_ne (tgt := 237) C.x C.b dL_act_224 (by decide) (fun _ => ?_) (fun q9 => absurd q9 (by decide))
  refine lv_iload_n C.x C.b dL_act_237 rfl (lv_at hl 1 rfl) ?_
  refine lv_bipush (v := nI 15) C.x C.b dL_act_238 (by decide) ?_
  refine lv_icmp_ne (tgt := 253) C.x C.b dL_act_240 (by decide) (fun _ => ?_) (fun q9 => absurd q9 (by decide))
  refine lv_iload_n C.x C.b dL_act_253 rfl (lv_at hl 1 rfl) ?_
  refine lv_bipush (v := nI 16) C.x C.b dL_act_254 (by decide) ?_
  refine lv_icmp_ne (tgt := 269) C.x C.b dL_act_256 (by decide) (fun _ => ?_) (fun q9 => absurd q9 (by decide))
  refine lv_iload_n C.x C.b dL_act_269 rfl (lv_at hl 1 rfl) ?_
  refine lv_bipush (v := nI 17) C.x C.b dL_act_270 (by decide) ?_
  refine lv_icmp_ne (tgt := 289) C.x C.b dL_act_272 (by decide) (fun _ => ?_) (fun q9 => absurd q9 (by decide))
  refine lv_iload_n C.x C.b dL_act_289 rfl (lv_at hl 1 rfl) ?_
  refine lv_bipush (v := nI 18) C.x C.b dL_act_290 (by decide) ?_
  refine lv_icmp_ne (tgt := 309) C.x C.b dL_act_292 (by decide) (fun _ => ?_) (fun q9 => absurd q9 (by decide))
  refine lv_iload_n C.x C.b dL_act_309 rfl (lv_at hl 1 rfl) ?_
  refine lv_bipush (v := nI 19) C.x C.b dL_act_310 (by decide) ?_
  refine lv_icmp_ne (tgt := 329) C.x C.b dL_act_312 (by decide) (fun _ => ?_) (fun q9 => absurd q9 (by decide))
  refine lv_iload_n C.x C.b dL_act_329 rfl (lv_at hl 1 rfl) ?_
  refine lv_bipush (v := nI 20) C.x C.b dL_act_330 (by decide) ?_
  refine lv_icmp_ne (tgt := 354) C.x C.b dL_act_332 (by decide) (fun _ => ?_) (fun q9 => absurd q9 (by decide))
  refine lv_iload_n C.x C.b dL_act_354 rfl (lv_at hl 1 rfl) ?_
  refine lv_bipush (v := nI 21) C.x C.b dL_act_355 (by decide) ?_
  refine lv_icmp_ne (tgt := 369) C.x C.b dL_act_357 (by decide) (fun _ => ?_) (fun q9 => absurd q9 (by decide))
  refine lv_iload_n C.x C.b dL_act_369 rfl (lv_at hl 1 rfl) ?_
  refine lv_bipush (v := nI 22) C.x C.b dL_act_370 (by decide) ?_
  refine lv_icmp_ne (tgt := 395) C.x C.b dL_act_372 (by decide) (fun _ => ?_) (fun q9 => absurd q9 (by decide))
  refine lv_iload_n C.x C.b dL_act_395 rfl (lv_at hl 1 rfl) ?_
  refine lv_bipush (v := nI 23) C.x C.b dL_act_396 (by decide) ?_
  refine lv_icmp_ne (tgt := 410) C.x C.b dL_act_398 (by decide) (fun q9 => absurd rfl q9) (fun _ => ?_)
  refine lv_aload_n C.x C.b dL_act_401 rfl (lv_at hl 0 rfl) ?_
  refine lv_iload_n C.x C.b dL_act_402 rfl (lv_at hl 2 rfl) ?_
  rcases hc with ⟨h0, hg⟩ | hn
  · obtain ⟨rm, mc, ms, ⟨q1, q2, q3, q4, q5, q6⟩, hm⟩ := hg
    refine k_calli (va_runV (As := [.int a]) (rest := []) C.1 hm (cwV 1 C.ts (gl_up inv_X8_nodes) rfl q1 q2 ⟨rfl, hdA_X8_nodes⟩ ⟨by show rm.frames + 1 ≤ 301; omega, by show 8 + (_ + 11) + rm.locals ≤ 20040; omega⟩) (k_preV C hX hh rfl) rfl rfl hl.1 rfl (lv_room (Nat.le_of_ble_eq_true rfl)) dL_act_403 ⟨by show 0 + mc ≤ 8; omega, by show 0 + ms ≤ 64; omega⟩) hX (fun r0 f1 H locs hp hX => ?_)
    obtain ⟨hr0, hI1⟩ := hp
    refine lv_i2l (v := r0.toInt64) C.x C.b dL_act_406 rfl ?_
    refine lv_goto (tgt := 435) C.x C.b dL_act_407 (by decide) ?_
    exact k_lretX C hX hr hlocks hQ (by omega) (by omega) ⟨by rw [rvI_0 h0, hr0], hI1⟩ dL_act_435
  rcases hn.cs with ⟨hk, hg⟩ | ⟨hk, hg⟩ | ⟨hk, hg⟩
  · obtain ⟨rm, mc, ms, ⟨q1, q2, q3, q4, q5, q6⟩, hm⟩ := hg
    refine k_catX C (vx_runV (As := [.int a]) (rest := []) C.1 hm (cwV 1 C.ts (gl_up inv_X8_nodes) rfl q1 q2 ⟨rfl, hdA_X8_nodes⟩ ⟨by show rm.frames + 1 ≤ 301; omega, by show 8 + (_ + 11) + rm.locals ≤ 20040; omega⟩) (k_preV C hX hh rfl) rfl rfl hl.1 rfl (lv_room (Nat.le_of_ble_eq_true rfl)) dL_act_403 ⟨by show 0 + mc ≤ 8; omega, by show 0 + ms ≤ 64; omega⟩) hX [] (0, 435, 436, 96) [(0, 435, 442, 100), (0, 435, 448, 104)] htab (fun z9 hz9 => by simp at hz9) (by decide) (by decide) lkA_o inA_o (fun q9 f1 H locs hp hX => ?_)
    refine lv_astore (lv' := [(6, .ref q9), (0, .ref h), (1, .int (nI 23)), (2, .int a), (3, .int b), (4, .int x), (5, .int y)]) C.x C.b dL_act_436 hl (by decide) rfl (fun ls hl => ?_)
    refine lv_ldc2 (v := -7000001) C.x C.b C.ow (C.ts _ lkA_c98) dL_act_438 ?_
    exact k_lretX C hX hr hlocks hQ (by omega) (by omega) ⟨by rw [rvI_1 hk], hp⟩ dL_act_441
  · obtain ⟨rm, mc, ms, ⟨q1, q2, q3, q4, q5, q6⟩, hm⟩ := hg
    refine k_catX C (vx_runV (As := [.int a]) (rest := []) C.1 hm (cwV 1 C.ts (gl_up inv_X8_nodes) rfl q1 q2 ⟨rfl, hdA_X8_nodes⟩ ⟨by show rm.frames + 1 ≤ 301; omega, by show 8 + (_ + 11) + rm.locals ≤ 20040; omega⟩) (k_preV C hX hh rfl) rfl rfl hl.1 rfl (lv_room (Nat.le_of_ble_eq_true rfl)) dL_act_403 ⟨by show 0 + mc ≤ 8; omega, by show 0 + ms ≤ 64; omega⟩) hX [(0, 435, 436, 96)] (0, 435, 442, 100) [(0, 435, 448, 104)] htab (fun z9 hz9 => by
      simp only [List.mem_cons, List.not_mem_nil, or_false] at hz9
      rcases hz9 with rfl
      · exact ⟨by decide, "java/lang/IndexOutOfBoundsException", lkA_o, by decide +kernel⟩) (by decide) (by decide) lkA_a inA_a (fun q9 f1 H locs hp hX => ?_)
    refine lv_astore (lv' := [(6, .ref q9), (0, .ref h), (1, .int (nI 23)), (2, .int a), (3, .int b), (4, .int x), (5, .int y)]) C.x C.b dL_act_442 hl (by decide) rfl (fun ls hl => ?_)
    refine lv_ldc2 (v := -7000002) C.x C.b C.ow (C.ts _ lkA_c102) dL_act_444 ?_
    exact k_lretX C hX hr hlocks hQ (by omega) (by omega) ⟨by rw [rvI_2 hk], hp⟩ dL_act_447
  · obtain ⟨rm, mc, ms, ⟨q1, q2, q3, q4, q5, q6⟩, hm⟩ := hg
    refine k_catX C (vx_runV (As := [.int a]) (rest := []) C.1 hm (cwV 1 C.ts (gl_up inv_X8_nodes) rfl q1 q2 ⟨rfl, hdA_X8_nodes⟩ ⟨by show rm.frames + 1 ≤ 301; omega, by show 8 + (_ + 11) + rm.locals ≤ 20040; omega⟩) (k_preV C hX hh rfl) rfl rfl hl.1 rfl (lv_room (Nat.le_of_ble_eq_true rfl)) dL_act_403 ⟨by show 0 + mc ≤ 8; omega, by show 0 + ms ≤ 64; omega⟩) hX [(0, 435, 436, 96), (0, 435, 442, 100)] (0, 435, 448, 104) [] htab (fun z9 hz9 => by
      simp only [List.mem_cons, List.not_mem_nil, or_false] at hz9
      rcases hz9 with rfl | rfl
      · exact ⟨by decide, "java/lang/IndexOutOfBoundsException", lkA_o, by decide +kernel⟩
      · exact ⟨by decide, "java/lang/IllegalArgumentException", lkA_a, by decide +kernel⟩) (by decide) (by decide) lkA_s inA_s (fun q9 f1 H locs hp hX => ?_)
    refine lv_astore (lv' := [(6, .ref q9), (0, .ref h), (1, .int (nI 23)), (2, .int a), (3, .int b), (4, .int x), (5, .int y)]) C.x C.b dL_act_448 hl (by decide) rfl (fun ls hl => ?_)
    refine lv_ldc2 (v := -7000003) C.x C.b C.ow (C.ts _ lkA_c106) dL_act_450 ?_
    exact k_lretX C hX hr hlocks hQ (by omega) (by omega) ⟨by rw [rvI_3 hk], hp⟩ dL_act_453
theorem hdA_X8_wire : yX8_wire.cls ≠ "java/lang/invoke/MethodHandle" ∧ yX8_wire.cls ≠ "java/lang/invoke/VarHandle" ∧ (parseMethodDescriptor yX8_wire.desc).map (fun d => d.parameters.length) = some 2 := by decide +kernel
set_option maxHeartbeats 2000000 in
theorem act_24 {l : Launch} {G : kG} {B0 h : Nat} {f : kH} (hh : ∃ vs, f h = some (.inr (8, vs))) (a b x y : Int32) {R : pRI} (hc : cI l G B0 h f yX8_wire wsX8_wire [.int a, .int b] R) : vx_Met l yL_act wsP_act rmA (kP G B0 f [.ref h, .int (nI 24), .int a, .int b, .int x, .int y]) (kQl G B0 (fun r f1 => r = rvI R ∧ Inv G h f1 R.2.2)) (kXN G B0) 8 64 (kAb B0) := by
  obtain ⟨vs, hh⟩ := hh
  refine kMetH (cc := cL_act) (maxL := 7) (ret := (some .long)) (hh := [(0, 435, 436, 96), (0, 435, 442, 100), (0, 435, 448, 104)]) (by decide) rfl (Nat.le_of_ble_eq_true rfl) ?_
  intro p e s m args below meth c H locs Q ls C hX hl hr hlocks hQ htab
  have hl : lv_has ls 7 [(0, .ref h), (1, .int (nI 24)), (2, .int a), (3, .int b), (4, .int x), (5, .int y)] := hl
  refine lv_iload_n C.x C.b dL_act_0 rfl (lv_at hl 1 rfl) ?_
  refine lv_if_ne (tgt := 13) C.x C.b dL_act_1 (by decide) (fun _ => ?_) (fun q9 => absurd q9 (by decide))
  refine lv_iload_n C.x C.b dL_act_13 rfl (lv_at hl 1 rfl) ?_
  refine lv_iconst (v := nI 1) C.x C.b dL_act_14 (by decide) ?_
  refine lv_icmp_ne (tgt := 28) C.x C.b dL_act_15 (by decide) (fun _ => ?_) (fun q9 => absurd q9 (by decide))
  refine lv_iload_n C.x C.b dL_act_28 rfl (lv_at hl 1 rfl) ?_
  refine lv_iconst (v := nI 2) C.x C.b dL_act_29 (by decide) ?_
  refine lv_icmp_ne (tgt := 43) C.x C.b dL_act_30 (by decide) (fun _ => ?_) (fun q9 => absurd q9 (by decide))
  refine lv_iload_n C.x C.b dL_act_43 rfl (lv_at hl 1 rfl) ?_
  refine lv_iconst (v := nI 3) C.x C.b dL_act_44 (by decide) ?_
  refine lv_icmp_ne (tgt := 58) C.x C.b dL_act_45 (by decide) (fun _ => ?_) (fun q9 => absurd q9 (by decide))
  refine lv_iload_n C.x C.b dL_act_58 rfl (lv_at hl 1 rfl) ?_
  refine lv_iconst (v := nI 4) C.x C.b dL_act_59 (by decide) ?_
  refine lv_icmp_ne (tgt := 72) C.x C.b dL_act_60 (by decide) (fun _ => ?_) (fun q9 => absurd q9 (by decide))
  refine lv_iload_n C.x C.b dL_act_72 rfl (lv_at hl 1 rfl) ?_
  refine lv_iconst (v := nI 5) C.x C.b dL_act_73 (by decide) ?_
  refine lv_icmp_ne (tgt := 89) C.x C.b dL_act_74 (by decide) (fun _ => ?_) (fun q9 => absurd q9 (by decide))
  refine lv_iload_n C.x C.b dL_act_89 rfl (lv_at hl 1 rfl) ?_
  refine lv_bipush (v := nI 6) C.x C.b dL_act_90 (by decide) ?_
  refine lv_icmp_ne (tgt := 109) C.x C.b dL_act_92 (by decide) (fun _ => ?_) (fun q9 => absurd q9 (by decide))
  refine lv_iload_n C.x C.b dL_act_109 rfl (lv_at hl 1 rfl) ?_
  refine lv_bipush (v := nI 7) C.x C.b dL_act_110 (by decide) ?_
  refine lv_icmp_ne (tgt := 125) C.x C.b dL_act_112 (by decide) (fun _ => ?_) (fun q9 => absurd q9 (by decide))
  refine lv_iload_n C.x C.b dL_act_125 rfl (lv_at hl 1 rfl) ?_
  refine lv_bipush (v := nI 8) C.x C.b dL_act_126 (by decide) ?_
  refine lv_icmp_ne (tgt := 140) C.x C.b dL_act_128 (by decide) (fun _ => ?_) (fun q9 => absurd q9 (by decide))
  refine lv_iload_n C.x C.b dL_act_140 rfl (lv_at hl 1 rfl) ?_
  refine lv_bipush (v := nI 9) C.x C.b dL_act_141 (by decide) ?_
  refine lv_icmp_ne (tgt := 160) C.x C.b dL_act_143 (by decide) (fun _ => ?_) (fun q9 => absurd q9 (by decide))
  refine lv_iload_n C.x C.b dL_act_160 rfl (lv_at hl 1 rfl) ?_
  refine lv_bipush (v := nI 10) C.x C.b dL_act_161 (by decide) ?_
  refine lv_icmp_ne (tgt := 175) C.x C.b dL_act_163 (by decide) (fun _ => ?_) (fun q9 => absurd q9 (by decide))
  refine lv_iload_n C.x C.b dL_act_175 rfl (lv_at hl 1 rfl) ?_
  refine lv_bipush (v := nI 11) C.x C.b dL_act_176 (by decide) ?_
  refine lv_icmp_ne (tgt := 190) C.x C.b dL_act_178 (by decide) (fun _ => ?_) (fun q9 => absurd q9 (by decide))
  refine lv_iload_n C.x C.b dL_act_190 rfl (lv_at hl 1 rfl) ?_
  refine lv_bipush (v := nI 12) C.x C.b dL_act_191 (by decide) ?_
  refine lv_icmp_ne (tgt := 206) C.x C.b dL_act_193 (by decide) (fun _ => ?_) (fun q9 => absurd q9 (by decide))
  refine lv_iload_n C.x C.b dL_act_206 rfl (lv_at hl 1 rfl) ?_
  refine lv_bipush (v := nI 13) C.x C.b dL_act_207 (by decide) ?_
  refine lv_icmp_ne (tgt := 221) C.x C.b dL_act_209 (by decide) (fun _ => ?_) (fun q9 => absurd q9 (by decide))
  refine lv_iload_n C.x C.b dL_act_221 rfl (lv_at hl 1 rfl) ?_
  refine lv_bipush (v := nI 14) C.x C.b dL_act_222 (by decide) ?_
  refine lv_icmp_ne (tgt := 237) C.x C.b dL_act_224 (by decide) (fun _ => ?_) (fun q9 => absurd q9 (by decide))
  refine lv_iload_n C.x C.b dL_act_237 rfl (lv_at hl 1 rfl) ?_
  refine lv_bipush (v := nI 15) C.x C.b dL_act_238 (by decide) ?_
  refine lv_icmp_ne (tgt := 253) C.x C.b dL_act_240 (by decide) (fun _ => ?_) (fun q9 => absurd q9 (by decide))
  refine lv_iload_n C.x C.b dL_act_253 rfl (lv_at hl 1 rfl) ?_
  refine lv_bipush (v := nI 16) C.x C.b dL_act_254 (by decide) ?_
  refine lv_icmp_ne (tgt := 269) C.x C.b dL_act_256 (by decide) (fun _ => ?_) (fun q9 => absurd q9 (by decide))
  refine lv_iload_n C.x C.b dL_act_269 rfl (lv_at hl 1 rfl) ?_
  refine lv_bipush (v := nI 17) C.x C.b dL_act_270 (by decide) ?_
  refine lv_icmp_ne (tgt := 289) C.x C.b dL_act_272 (by decide) (fun _ => ?_) (fun q9 => absurd q9 (by decide))
  refine lv_iload_n C.x C.b dL_act_289 rfl (lv_at hl 1 rfl) ?_
  refine lv_bipush (v := nI 18) C.x C.b dL_act_290 (by decide) ?_
  refine lv_icmp_ne (tgt := 309) C.x C.b dL_act_292 (by decide) (fun _ => ?_) (fun q9 => absurd q9 (by decide))
  refine lv_iload_n C.x C.b dL_act_309 rfl (lv_at hl 1 rfl) ?_
  refine lv_bipush (v := nI 19) C.x C.b dL_act_310 (by decide) ?_
  refine lv_icmp_ne (tgt := 329) C.x C.b dL_act_312 (by decide) (fun _ => ?_) (fun q9 => absurd q9 (by decide))
  refine lv_iload_n C.x C.b dL_act_329 rfl (lv_at hl 1 rfl) ?_
  refine lv_bipush (v := nI 20) C.x C.b dL_act_330 (by decide) ?_
  refine lv_icmp_ne (tgt := 354) C.x C.b dL_act_332 (by decide) (fun _ => ?_) (fun q9 => absurd q9 (by decide))
  refine lv_iload_n C.x C.b dL_act_354 rfl (lv_at hl 1 rfl) ?_
  refine lv_bipush (v := nI 21) C.x C.b dL_act_355 (by decide) ?_
  refine lv_icmp_ne (tgt := 369) C.x C.b dL_act_357 (by decide) (fun _ => ?_) (fun q9 => absurd q9 (by decide))
  refine lv_iload_n C.x C.b dL_act_369 rfl (lv_at hl 1 rfl) ?_
  refine lv_bipush (v := nI 22) C.x C.b dL_act_370 (by decide) ?_
  refine lv_icmp_ne (tgt := 395) C.x C.b dL_act_372 (by decide) (fun _ => ?_) (fun q9 => absurd q9 (by decide))
  refine lv_iload_n C.x C.b dL_act_395 rfl (lv_at hl 1 rfl) ?_
  refine lv_bipush (v := nI 23) C.x C.b dL_act_396 (by decide) ?_
  refine lv_icmp_ne (tgt := 410) C.x C.b dL_act_398 (by decide) (fun _ => ?_) (fun q9 => absurd q9 (by decide))
  refine lv_iload_n C.x C.b dL_act_410 rfl (lv_at hl 1 rfl) ?_
  refine lv_bipush (v := nI 24) C.x C.b dL_act_411 (by decide) ?_
  refine lv_icmp_ne (tgt := 426) C.x C.b dL_act_413 (by decide) (fun q9 => absurd rfl q9) (fun _ => ?_)
  refine lv_aload_n C.x C.b dL_act_416 rfl (lv_at hl 0 rfl) ?_
  refine lv_iload_n C.x C.b dL_act_417 rfl (lv_at hl 2 rfl) ?_
  refine lv_iload_n C.x C.b dL_act_418 rfl (lv_at hl 3 rfl) ?_
  rcases hc with ⟨h0, hg⟩ | hn
  · obtain ⟨rm, mc, ms, ⟨q1, q2, q3, q4, q5, q6⟩, hm⟩ := hg
    refine k_calli (va_runV (As := [.int a, .int b]) (rest := []) C.1 hm (cwV 2 C.ts (gl_up inv_X8_wire) rfl q1 q2 ⟨rfl, hdA_X8_wire⟩ ⟨by show rm.frames + 1 ≤ 301; omega, by show 8 + (_ + 11) + rm.locals ≤ 20040; omega⟩) (k_preV C hX hh rfl) rfl rfl hl.1 rfl (lv_room (Nat.le_of_ble_eq_true rfl)) dL_act_419 ⟨by show 0 + mc ≤ 8; omega, by show 0 + ms ≤ 64; omega⟩) hX (fun r0 f1 H locs hp hX => ?_)
    obtain ⟨hr0, hI1⟩ := hp
    refine lv_i2l (v := r0.toInt64) C.x C.b dL_act_422 rfl ?_
    refine lv_goto (tgt := 435) C.x C.b dL_act_423 (by decide) ?_
    exact k_lretX C hX hr hlocks hQ (by omega) (by omega) ⟨by rw [rvI_0 h0, hr0], hI1⟩ dL_act_435
  rcases hn.cs with ⟨hk, hg⟩ | ⟨hk, hg⟩ | ⟨hk, hg⟩
  · obtain ⟨rm, mc, ms, ⟨q1, q2, q3, q4, q5, q6⟩, hm⟩ := hg
    refine k_catX C (vx_runV (As := [.int a, .int b]) (rest := []) C.1 hm (cwV 2 C.ts (gl_up inv_X8_wire) rfl q1 q2 ⟨rfl, hdA_X8_wire⟩ ⟨by show rm.frames + 1 ≤ 301; omega, by show 8 + (_ + 11) + rm.locals ≤ 20040; omega⟩) (k_preV C hX hh rfl) rfl rfl hl.1 rfl (lv_room (Nat.le_of_ble_eq_true rfl)) dL_act_419 ⟨by show 0 + mc ≤ 8; omega, by show 0 + ms ≤ 64; omega⟩) hX [] (0, 435, 436, 96) [(0, 435, 442, 100), (0, 435, 448, 104)] htab (fun z9 hz9 => by simp at hz9) (by decide) (by decide) lkA_o inA_o (fun q9 f1 H locs hp hX => ?_)
    refine lv_astore (lv' := [(6, .ref q9), (0, .ref h), (1, .int (nI 24)), (2, .int a), (3, .int b), (4, .int x), (5, .int y)]) C.x C.b dL_act_436 hl (by decide) rfl (fun ls hl => ?_)
    refine lv_ldc2 (v := -7000001) C.x C.b C.ow (C.ts _ lkA_c98) dL_act_438 ?_
    exact k_lretX C hX hr hlocks hQ (by omega) (by omega) ⟨by rw [rvI_1 hk], hp⟩ dL_act_441
  · obtain ⟨rm, mc, ms, ⟨q1, q2, q3, q4, q5, q6⟩, hm⟩ := hg
    refine k_catX C (vx_runV (As := [.int a, .int b]) (rest := []) C.1 hm (cwV 2 C.ts (gl_up inv_X8_wire) rfl q1 q2 ⟨rfl, hdA_X8_wire⟩ ⟨by show rm.frames + 1 ≤ 301; omega, by show 8 + (_ + 11) + rm.locals ≤ 20040; omega⟩) (k_preV C hX hh rfl) rfl rfl hl.1 rfl (lv_room (Nat.le_of_ble_eq_true rfl)) dL_act_419 ⟨by show 0 + mc ≤ 8; omega, by show 0 + ms ≤ 64; omega⟩) hX [(0, 435, 436, 96)] (0, 435, 442, 100) [(0, 435, 448, 104)] htab (fun z9 hz9 => by
      simp only [List.mem_cons, List.not_mem_nil, or_false] at hz9
      rcases hz9 with rfl
      · exact ⟨by decide, "java/lang/IndexOutOfBoundsException", lkA_o, by decide +kernel⟩) (by decide) (by decide) lkA_a inA_a (fun q9 f1 H locs hp hX => ?_)
    refine lv_astore (lv' := [(6, .ref q9), (0, .ref h), (1, .int (nI 24)), (2, .int a), (3, .int b), (4, .int x), (5, .int y)]) C.x C.b dL_act_442 hl (by decide) rfl (fun ls hl => ?_)
    refine lv_ldc2 (v := -7000002) C.x C.b C.ow (C.ts _ lkA_c102) dL_act_444 ?_
    exact k_lretX C hX hr hlocks hQ (by omega) (by omega) ⟨by rw [rvI_2 hk], hp⟩ dL_act_447
  · obtain ⟨rm, mc, ms, ⟨q1, q2, q3, q4, q5, q6⟩, hm⟩ := hg
    refine k_catX C (vx_runV (As := [.int a, .int b]) (rest := []) C.1 hm (cwV 2 C.ts (gl_up inv_X8_wire) rfl q1 q2 ⟨rfl, hdA_X8_wire⟩ ⟨by show rm.frames + 1 ≤ 301; omega, by show 8 + (_ + 11) + rm.locals ≤ 20040; omega⟩) (k_preV C hX hh rfl) rfl rfl hl.1 rfl (lv_room (Nat.le_of_ble_eq_true rfl)) dL_act_419 ⟨by show 0 + mc ≤ 8; omega, by show 0 + ms ≤ 64; omega⟩) hX [(0, 435, 436, 96), (0, 435, 442, 100)] (0, 435, 448, 104) [] htab (fun z9 hz9 => by
      simp only [List.mem_cons, List.not_mem_nil, or_false] at hz9
      rcases hz9 with rfl | rfl
      · exact ⟨by decide, "java/lang/IndexOutOfBoundsException", lkA_o, by decide +kernel⟩
      · exact ⟨by decide, "java/lang/IllegalArgumentException", lkA_a, by decide +kernel⟩) (by decide) (by decide) lkA_s inA_s (fun q9 f1 H locs hp hX => ?_)
    refine lv_astore (lv' := [(6, .ref q9), (0, .ref h), (1, .int (nI 24)), (2, .int a), (3, .int b), (4, .int x), (5, .int y)]) C.x C.b dL_act_448 hl (by decide) rfl (fun ls hl => ?_)
    refine lv_ldc2 (v := -7000003) C.x C.b C.ow (C.ts _ lkA_c106) dL_act_450 ?_
    exact k_lretX C hX hr hlocks hQ (by omega) (by omega) ⟨by rw [rvI_3 hk], hp⟩ dL_act_453
theorem hdA_X8_side : yX8_side.cls ≠ "java/lang/invoke/MethodHandle" ∧ yX8_side.cls ≠ "java/lang/invoke/VarHandle" ∧ (parseMethodDescriptor yX8_side.desc).map (fun d => d.parameters.length) = some 3 := by decide +kernel
set_option maxHeartbeats 2000000 in
theorem act_25 {l : Launch} {G : kG} {B0 h : Nat} {f : kH} (hh : ∃ vs, f h = some (.inr (8, vs))) (a b x y : Int32) {R : pRI} (hc : cI l G B0 h f yX8_side wsX8_side [.int a, .int b, .int x] R) : vx_Met l yL_act wsP_act rmA (kP G B0 f [.ref h, .int (nI 25), .int a, .int b, .int x, .int y]) (kQl G B0 (fun r f1 => r = rvI R ∧ Inv G h f1 R.2.2)) (kXN G B0) 8 64 (kAb B0) := by
  obtain ⟨vs, hh⟩ := hh
  refine kMetH (cc := cL_act) (maxL := 7) (ret := (some .long)) (hh := [(0, 435, 436, 96), (0, 435, 442, 100), (0, 435, 448, 104)]) (by decide) rfl (Nat.le_of_ble_eq_true rfl) ?_
  intro p e s m args below meth c H locs Q ls C hX hl hr hlocks hQ htab
  have hl : lv_has ls 7 [(0, .ref h), (1, .int (nI 25)), (2, .int a), (3, .int b), (4, .int x), (5, .int y)] := hl
  refine lv_iload_n C.x C.b dL_act_0 rfl (lv_at hl 1 rfl) ?_
  refine lv_if_ne (tgt := 13) C.x C.b dL_act_1 (by decide) (fun _ => ?_) (fun q9 => absurd q9 (by decide))
  refine lv_iload_n C.x C.b dL_act_13 rfl (lv_at hl 1 rfl) ?_
  refine lv_iconst (v := nI 1) C.x C.b dL_act_14 (by decide) ?_
  refine lv_icmp_ne (tgt := 28) C.x C.b dL_act_15 (by decide) (fun _ => ?_) (fun q9 => absurd q9 (by decide))
  refine lv_iload_n C.x C.b dL_act_28 rfl (lv_at hl 1 rfl) ?_
  refine lv_iconst (v := nI 2) C.x C.b dL_act_29 (by decide) ?_
  refine lv_icmp_ne (tgt := 43) C.x C.b dL_act_30 (by decide) (fun _ => ?_) (fun q9 => absurd q9 (by decide))
  refine lv_iload_n C.x C.b dL_act_43 rfl (lv_at hl 1 rfl) ?_
  refine lv_iconst (v := nI 3) C.x C.b dL_act_44 (by decide) ?_
  refine lv_icmp_ne (tgt := 58) C.x C.b dL_act_45 (by decide) (fun _ => ?_) (fun q9 => absurd q9 (by decide))
  refine lv_iload_n C.x C.b dL_act_58 rfl (lv_at hl 1 rfl) ?_
  refine lv_iconst (v := nI 4) C.x C.b dL_act_59 (by decide) ?_
  refine lv_icmp_ne (tgt := 72) C.x C.b dL_act_60 (by decide) (fun _ => ?_) (fun q9 => absurd q9 (by decide))
  refine lv_iload_n C.x C.b dL_act_72 rfl (lv_at hl 1 rfl) ?_
  refine lv_iconst (v := nI 5) C.x C.b dL_act_73 (by decide) ?_
  refine lv_icmp_ne (tgt := 89) C.x C.b dL_act_74 (by decide) (fun _ => ?_) (fun q9 => absurd q9 (by decide))
  refine lv_iload_n C.x C.b dL_act_89 rfl (lv_at hl 1 rfl) ?_
  refine lv_bipush (v := nI 6) C.x C.b dL_act_90 (by decide) ?_
  refine lv_icmp_ne (tgt := 109) C.x C.b dL_act_92 (by decide) (fun _ => ?_) (fun q9 => absurd q9 (by decide))
  refine lv_iload_n C.x C.b dL_act_109 rfl (lv_at hl 1 rfl) ?_
  refine lv_bipush (v := nI 7) C.x C.b dL_act_110 (by decide) ?_
  refine lv_icmp_ne (tgt := 125) C.x C.b dL_act_112 (by decide) (fun _ => ?_) (fun q9 => absurd q9 (by decide))
  refine lv_iload_n C.x C.b dL_act_125 rfl (lv_at hl 1 rfl) ?_
  refine lv_bipush (v := nI 8) C.x C.b dL_act_126 (by decide) ?_
  refine lv_icmp_ne (tgt := 140) C.x C.b dL_act_128 (by decide) (fun _ => ?_) (fun q9 => absurd q9 (by decide))
  refine lv_iload_n C.x C.b dL_act_140 rfl (lv_at hl 1 rfl) ?_
  refine lv_bipush (v := nI 9) C.x C.b dL_act_141 (by decide) ?_
  refine lv_icmp_ne (tgt := 160) C.x C.b dL_act_143 (by decide) (fun _ => ?_) (fun q9 => absurd q9 (by decide))
  refine lv_iload_n C.x C.b dL_act_160 rfl (lv_at hl 1 rfl) ?_
  refine lv_bipush (v := nI 10) C.x C.b dL_act_161 (by decide) ?_
  refine lv_icmp_ne (tgt := 175) C.x C.b dL_act_163 (by decide) (fun _ => ?_) (fun q9 => absurd q9 (by decide))
  refine lv_iload_n C.x C.b dL_act_175 rfl (lv_at hl 1 rfl) ?_
  refine lv_bipush (v := nI 11) C.x C.b dL_act_176 (by decide) ?_
  refine lv_icmp_ne (tgt := 190) C.x C.b dL_act_178 (by decide) (fun _ => ?_) (fun q9 => absurd q9 (by decide))
  refine lv_iload_n C.x C.b dL_act_190 rfl (lv_at hl 1 rfl) ?_
  refine lv_bipush (v := nI 12) C.x C.b dL_act_191 (by decide) ?_
  refine lv_icmp_ne (tgt := 206) C.x C.b dL_act_193 (by decide) (fun _ => ?_) (fun q9 => absurd q9 (by decide))
  refine lv_iload_n C.x C.b dL_act_206 rfl (lv_at hl 1 rfl) ?_
  refine lv_bipush (v := nI 13) C.x C.b dL_act_207 (by decide) ?_
  refine lv_icmp_ne (tgt := 221) C.x C.b dL_act_209 (by decide) (fun _ => ?_) (fun q9 => absurd q9 (by decide))
  refine lv_iload_n C.x C.b dL_act_221 rfl (lv_at hl 1 rfl) ?_
  refine lv_bipush (v := nI 14) C.x C.b dL_act_222 (by decide) ?_
  refine lv_icmp_ne (tgt := 237) C.x C.b dL_act_224 (by decide) (fun _ => ?_) (fun q9 => absurd q9 (by decide))
  refine lv_iload_n C.x C.b dL_act_237 rfl (lv_at hl 1 rfl) ?_
  refine lv_bipush (v := nI 15) C.x C.b dL_act_238 (by decide) ?_
  refine lv_icmp_ne (tgt := 253) C.x C.b dL_act_240 (by decide) (fun _ => ?_) (fun q9 => absurd q9 (by decide))
  refine lv_iload_n C.x C.b dL_act_253 rfl (lv_at hl 1 rfl) ?_
  refine lv_bipush (v := nI 16) C.x C.b dL_act_254 (by decide) ?_
  refine lv_icmp_ne (tgt := 269) C.x C.b dL_act_256 (by decide) (fun _ => ?_) (fun q9 => absurd q9 (by decide))
  refine lv_iload_n C.x C.b dL_act_269 rfl (lv_at hl 1 rfl) ?_
  refine lv_bipush (v := nI 17) C.x C.b dL_act_270 (by decide) ?_
  refine lv_icmp_ne (tgt := 289) C.x C.b dL_act_272 (by decide) (fun _ => ?_) (fun q9 => absurd q9 (by decide))
  refine lv_iload_n C.x C.b dL_act_289 rfl (lv_at hl 1 rfl) ?_
  refine lv_bipush (v := nI 18) C.x C.b dL_act_290 (by decide) ?_
  refine lv_icmp_ne (tgt := 309) C.x C.b dL_act_292 (by decide) (fun _ => ?_) (fun q9 => absurd q9 (by decide))
  refine lv_iload_n C.x C.b dL_act_309 rfl (lv_at hl 1 rfl) ?_
  refine lv_bipush (v := nI 19) C.x C.b dL_act_310 (by decide) ?_
  refine lv_icmp_ne (tgt := 329) C.x C.b dL_act_312 (by decide) (fun _ => ?_) (fun q9 => absurd q9 (by decide))
  refine lv_iload_n C.x C.b dL_act_329 rfl (lv_at hl 1 rfl) ?_
  refine lv_bipush (v := nI 20) C.x C.b dL_act_330 (by decide) ?_
  refine lv_icmp_ne (tgt := 354) C.x C.b dL_act_332 (by decide) (fun _ => ?_) (fun q9 => absurd q9 (by decide))
  refine lv_iload_n C.x C.b dL_act_354 rfl (lv_at hl 1 rfl) ?_
  refine lv_bipush (v := nI 21) C.x C.b dL_act_355 (by decide) ?_
  refine lv_icmp_ne (tgt := 369) C.x C.b dL_act_357 (by decide) (fun _ => ?_) (fun q9 => absurd q9 (by decide))
  refine lv_iload_n C.x C.b dL_act_369 rfl (lv_at hl 1 rfl) ?_
  refine lv_bipush (v := nI 22) C.x C.b dL_act_370 (by decide) ?_
  refine lv_icmp_ne (tgt := 395) C.x C.b dL_act_372 (by decide) (fun _ => ?_) (fun q9 => absurd q9 (by decide))
  refine lv_iload_n C.x C.b dL_act_395 rfl (lv_at hl 1 rfl) ?_
  refine lv_bipush (v := nI 23) C.x C.b dL_act_396 (by decide) ?_
  refine lv_icmp_ne (tgt := 410) C.x C.b dL_act_398 (by decide) (fun _ => ?_) (fun q9 => absurd q9 (by decide))
  refine lv_iload_n C.x C.b dL_act_410 rfl (lv_at hl 1 rfl) ?_
  refine lv_bipush (v := nI 24) C.x C.b dL_act_411 (by decide) ?_
  refine lv_icmp_ne (tgt := 426) C.x C.b dL_act_413 (by decide) (fun _ => ?_) (fun q9 => absurd q9 (by decide))
  refine lv_aload_n C.x C.b dL_act_426 rfl (lv_at hl 0 rfl) ?_
  refine lv_iload_n C.x C.b dL_act_427 rfl (lv_at hl 2 rfl) ?_
  refine lv_iload_n C.x C.b dL_act_428 rfl (lv_at hl 3 rfl) ?_
  refine lv_iload C.x C.b dL_act_429 (lv_at hl 4 rfl) ?_
  rcases hc with ⟨h0, hg⟩ | hn
  · obtain ⟨rm, mc, ms, ⟨q1, q2, q3, q4, q5, q6⟩, hm⟩ := hg
    refine k_calli (va_runV (As := [.int a, .int b, .int x]) (rest := []) C.1 hm (cwV 3 C.ts (gl_up inv_X8_side) rfl q1 q2 ⟨rfl, hdA_X8_side⟩ ⟨by show rm.frames + 1 ≤ 301; omega, by show 8 + (_ + 11) + rm.locals ≤ 20040; omega⟩) (k_preV C hX hh rfl) rfl rfl hl.1 rfl (lv_room (Nat.le_of_ble_eq_true rfl)) dL_act_431 ⟨by show 0 + mc ≤ 8; omega, by show 0 + ms ≤ 64; omega⟩) hX (fun r0 f1 H locs hp hX => ?_)
    obtain ⟨hr0, hI1⟩ := hp
    refine lv_i2l (v := r0.toInt64) C.x C.b dL_act_434 rfl ?_
    exact k_lretX C hX hr hlocks hQ (by omega) (by omega) ⟨by rw [rvI_0 h0, hr0], hI1⟩ dL_act_435
  rcases hn.cs with ⟨hk, hg⟩ | ⟨hk, hg⟩ | ⟨hk, hg⟩
  · obtain ⟨rm, mc, ms, ⟨q1, q2, q3, q4, q5, q6⟩, hm⟩ := hg
    refine k_catX C (vx_runV (As := [.int a, .int b, .int x]) (rest := []) C.1 hm (cwV 3 C.ts (gl_up inv_X8_side) rfl q1 q2 ⟨rfl, hdA_X8_side⟩ ⟨by show rm.frames + 1 ≤ 301; omega, by show 8 + (_ + 11) + rm.locals ≤ 20040; omega⟩) (k_preV C hX hh rfl) rfl rfl hl.1 rfl (lv_room (Nat.le_of_ble_eq_true rfl)) dL_act_431 ⟨by show 0 + mc ≤ 8; omega, by show 0 + ms ≤ 64; omega⟩) hX [] (0, 435, 436, 96) [(0, 435, 442, 100), (0, 435, 448, 104)] htab (fun z9 hz9 => by simp at hz9) (by decide) (by decide) lkA_o inA_o (fun q9 f1 H locs hp hX => ?_)
    refine lv_astore (lv' := [(6, .ref q9), (0, .ref h), (1, .int (nI 25)), (2, .int a), (3, .int b), (4, .int x), (5, .int y)]) C.x C.b dL_act_436 hl (by decide) rfl (fun ls hl => ?_)
    refine lv_ldc2 (v := -7000001) C.x C.b C.ow (C.ts _ lkA_c98) dL_act_438 ?_
    exact k_lretX C hX hr hlocks hQ (by omega) (by omega) ⟨by rw [rvI_1 hk], hp⟩ dL_act_441
  · obtain ⟨rm, mc, ms, ⟨q1, q2, q3, q4, q5, q6⟩, hm⟩ := hg
    refine k_catX C (vx_runV (As := [.int a, .int b, .int x]) (rest := []) C.1 hm (cwV 3 C.ts (gl_up inv_X8_side) rfl q1 q2 ⟨rfl, hdA_X8_side⟩ ⟨by show rm.frames + 1 ≤ 301; omega, by show 8 + (_ + 11) + rm.locals ≤ 20040; omega⟩) (k_preV C hX hh rfl) rfl rfl hl.1 rfl (lv_room (Nat.le_of_ble_eq_true rfl)) dL_act_431 ⟨by show 0 + mc ≤ 8; omega, by show 0 + ms ≤ 64; omega⟩) hX [(0, 435, 436, 96)] (0, 435, 442, 100) [(0, 435, 448, 104)] htab (fun z9 hz9 => by
      simp only [List.mem_cons, List.not_mem_nil, or_false] at hz9
      rcases hz9 with rfl
      · exact ⟨by decide, "java/lang/IndexOutOfBoundsException", lkA_o, by decide +kernel⟩) (by decide) (by decide) lkA_a inA_a (fun q9 f1 H locs hp hX => ?_)
    refine lv_astore (lv' := [(6, .ref q9), (0, .ref h), (1, .int (nI 25)), (2, .int a), (3, .int b), (4, .int x), (5, .int y)]) C.x C.b dL_act_442 hl (by decide) rfl (fun ls hl => ?_)
    refine lv_ldc2 (v := -7000002) C.x C.b C.ow (C.ts _ lkA_c102) dL_act_444 ?_
    exact k_lretX C hX hr hlocks hQ (by omega) (by omega) ⟨by rw [rvI_2 hk], hp⟩ dL_act_447
  · obtain ⟨rm, mc, ms, ⟨q1, q2, q3, q4, q5, q6⟩, hm⟩ := hg
    refine k_catX C (vx_runV (As := [.int a, .int b, .int x]) (rest := []) C.1 hm (cwV 3 C.ts (gl_up inv_X8_side) rfl q1 q2 ⟨rfl, hdA_X8_side⟩ ⟨by show rm.frames + 1 ≤ 301; omega, by show 8 + (_ + 11) + rm.locals ≤ 20040; omega⟩) (k_preV C hX hh rfl) rfl rfl hl.1 rfl (lv_room (Nat.le_of_ble_eq_true rfl)) dL_act_431 ⟨by show 0 + mc ≤ 8; omega, by show 0 + ms ≤ 64; omega⟩) hX [(0, 435, 436, 96), (0, 435, 442, 100)] (0, 435, 448, 104) [] htab (fun z9 hz9 => by
      simp only [List.mem_cons, List.not_mem_nil, or_false] at hz9
      rcases hz9 with rfl | rfl
      · exact ⟨by decide, "java/lang/IndexOutOfBoundsException", lkA_o, by decide +kernel⟩
      · exact ⟨by decide, "java/lang/IllegalArgumentException", lkA_a, by decide +kernel⟩) (by decide) (by decide) lkA_s inA_s (fun q9 f1 H locs hp hX => ?_)
    refine lv_astore (lv' := [(6, .ref q9), (0, .ref h), (1, .int (nI 25)), (2, .int a), (3, .int b), (4, .int x), (5, .int y)]) C.x C.b dL_act_448 hl (by decide) rfl (fun ls hl => ?_)
    refine lv_ldc2 (v := -7000003) C.x C.b C.ow (C.ts _ lkA_c106) dL_act_450 ?_
    exact k_lretX C hX hr hlocks hQ (by omega) (by omega) ⟨by rw [rvI_3 hk], hp⟩ dL_act_453
