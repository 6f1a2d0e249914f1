theorem hdA_X8_gasket : yX8_gasket.cls ≠ "java/lang/invoke/MethodHandle" ∧ yX8_gasket.cls ≠ "java/lang/invoke/VarHandle" ∧ (parseMethodDescriptor yX8_gasket.desc).map (fun d => d.parameters.length) = some 4 := by decide +kernel
set_option maxHeartbeats 2000000 in
theorem act_9 {l : Launch} {G : kG} {B0 h : Nat} {f : kH} (hh : ∃ vs, f h = some (.inr (8, vs))) (a b x y : Int32) {R : pRI} (hc : cI l G B0 h f yX8_gasket wsX8_gasket [.int a, .int b, .int x, .int y] R) : vx_Met l yL_act wsP_act rmA (kP G B0 f [.ref h, .int (nI 9), .int a, .int b, .int x, .int y]) (kQl G B0 (fun r f1 => r = rvI R ∧ Inv G h f1 R.2.2)) (kXN G B0) 8 64 (kAb B0) := by
  obtain ⟨vs, hh⟩ := hh
  refine kMetH (cc := cL_act) (maxL := 7) (ret := (some .long)) (hh := [(0, 435, 436, 96), (0, 435, 442, 100), (0, 435, 448, 104)]) (by decide) rfl (Nat.le_of_ble_eq_true rfl) ?_
  intro p e s m args below meth c H locs Q ls C hX hl hr hlocks hQ htab
  have hl : lv_has ls 7 [(0, .ref h), (1, .int (nI 9)), (2, .int a), (3, .int b), (4, .int x), (5, .int y)] := hl
  refine lv_iload_n C.x C.b dL_act_0 rfl (lv_at hl 1 rfl) ?_
  refine lv_if_ne (tgt := 13) C.x C.b dL_act_1 (by decide) (fun _ => ?_) (fun q9 => absurd q9 (by decide))
  refine lv_iload_n C.x C.b dL_act_13 rfl (lv_at hl 1 rfl) ?_
  refine lv_iconst (v := nI 1) C.x C.b dL_act_14 (by decide) ?_
  refine lv_icmp_ne (tgt := 28) C.x C.b dL_act_15 (by decide) (fun _ => ?_) (fun q9 => absurd q9 (by decide))
  refine lv_iload_n C.x C.b dL_act_28 rfl (lv_at hl 1 rfl) ?_
  refine lv_iconst (v := nI 2) C.x C.b dL_act_29 (by decide) ?_
  refine lv_icmp_ne (tgt := 43) C.x C.b dL_act_30 (by decide) (fun _ => ?_) (fun q9 => absurd q9 (by decide))
  refine lv_iload_n C.x C.b dL_act_43 rfl (lv_at hl 1 rfl) ?_
  refine lv_iconst (v := nI 3) C.x C.b dL_act_44 (by decide) ?_
  refine lv_icmp_ne (tgt := 58) C.x C.b dL_act_45 (by decide) (fun _ => ?_) (fun q9 => absurd q9 (by decide))
  refine lv_iload_n C.x C.b dL_act_58 rfl (lv_at hl 1 rfl) ?_
  refine lv_iconst (v := nI 4) C.x C.b dL_act_59 (by decide) ?_
  refine lv_icmp_ne (tgt := 72) C.x C.b dL_act_60 (by decide) (fun _ => ?_) (fun q9 => absurd q9 (by decide))
  refine lv_iload_n C.x C.b dL_act_72 rfl (lv_at hl 1 rfl) ?_
  refine lv_iconst (v := nI 5) C.x C.b dL_act_73 (by decide) ?_
  refine lv_icmp_ne (tgt := 89) C.x C.b dL_act_74 (by decide) (fun _ => ?_) (fun q9 => absurd q9 (by decide))
  refine lv_iload_n C.x C.b dL_act_89 rfl (lv_at hl 1 rfl) ?_
  refine lv_bipush (v := nI 6) C.x C.b dL_act_90 (by decide) ?_
  refine lv_icmp_ne (tgt := 109) C.x C.b dL_act_92 (by decide) (fun _ => ?_) (fun q9 => absurd q9 (by decide))
  refine lv_iload_n C.x C.b dL_act_109 rfl (lv_at hl 1 rfl) ?_
  refine lv_bipush (v := nI 7) C.x C.b dL_act_110 (by decide) ?_
  refine lv_icmp_ne (tgt := 125) C.x C.b dL_act_112 (by decide) (fun _ => ?_) (fun q9 => absurd q9 (by decide))
  refine lv_iload_n C.x C.b dL_act_125 rfl (lv_at hl 1 rfl) ?_
  refine lv_bipush (v := nI 8) C.x C.b dL_act_126 (by decide) ?_
  refine lv_icmp_ne (tgt := 140) C.x C.b dL_act_128 (by decide) (fun _ => ?_) (fun q9 => absurd q9 (by decide))
  refine lv_iload_n C.x C.b dL_act_140 rfl (lv_at hl 1 rfl) ?_
  refine lv_bipush (v := nI 9) C.x C.b dL_act_141 (by decide) ?_
  refine lv_icmp_ne (tgt := 160) C.x C.b dL_act_143 (by decide) (fun q9 => absurd rfl q9) (fun _ => ?_)
  refine lv_aload_n C.x C.b dL_act_146 rfl (lv_at hl 0 rfl) ?_
  refine lv_iload_n C.x C.b dL_act_147 rfl (lv_at hl 2 rfl) ?_
  refine lv_iload_n C.x C.b dL_act_148 rfl (lv_at hl 3 rfl) ?_
  refine lv_iload C.x C.b dL_act_149 (lv_at hl 4 rfl) ?_
  refine lv_iload C.x C.b dL_act_151 (lv_at hl 5 rfl) ?_
  rcases hc with ⟨h0, hg⟩ | hn
  · obtain ⟨rm, mc, ms, ⟨q1, q2, q3, q4, q5, q6⟩, hm⟩ := hg
    refine k_calli (va_runV (As := [.int a, .int b, .int x, .int y]) (rest := []) C.1 hm (cwV 4 C.ts (gl_up inv_X8_gasket) rfl q1 q2 ⟨rfl, hdA_X8_gasket⟩ ⟨by show rm.frames + 1 ≤ 301; omega, by show 8 + (_ + 11) + rm.locals ≤ 20040; omega⟩) (k_preV C hX hh rfl) rfl rfl hl.1 rfl (lv_room (Nat.le_of_ble_eq_true rfl)) dL_act_153 ⟨by show 0 + mc ≤ 8; omega, by show 0 + ms ≤ 64; omega⟩) hX (fun r0 f1 H locs hp hX => ?_)
    obtain ⟨hr0, hI1⟩ := hp
    refine lv_i2l (v := r0.toInt64) C.x C.b dL_act_156 rfl ?_
    refine lv_goto (tgt := 435) C.x C.b dL_act_157 (by decide) ?_
    exact k_lretX C hX hr hlocks hQ (by omega) (by omega) ⟨by rw [rvI_0 h0, hr0], hI1⟩ dL_act_435
  rcases hn.cs with ⟨hk, hg⟩ | ⟨hk, hg⟩ | ⟨hk, hg⟩
  · obtain ⟨rm, mc, ms, ⟨q1, q2, q3, q4, q5, q6⟩, hm⟩ := hg
    refine k_catX C (vx_runV (As := [.int a, .int b, .int x, .int y]) (rest := []) C.1 hm (cwV 4 C.ts (gl_up inv_X8_gasket) rfl q1 q2 ⟨rfl, hdA_X8_gasket⟩ ⟨by show rm.frames + 1 ≤ 301; omega, by show 8 + (_ + 11) + rm.locals ≤ 20040; omega⟩) (k_preV C hX hh rfl) rfl rfl hl.1 rfl (lv_room (Nat.le_of_ble_eq_true rfl)) dL_act_153 ⟨by show 0 + mc ≤ 8; omega, by show 0 + ms ≤ 64; omega⟩) hX [] (0, 435, 436, 96) [(0, 435, 442, 100), (0, 435, 448, 104)] htab (fun z9 hz9 => by simp at hz9) (by decide) (by decide) lkA_o inA_o (fun q9 f1 H locs hp hX => ?_)
    refine lv_astore (lv' := [(6, .ref q9), (0, .ref h), (1, .int (nI 9)), (2, .int a), (3, .int b), (4, .int x), (5, .int y)]) C.x C.b dL_act_436 hl (by decide) rfl (fun ls hl => ?_)
    refine lv_ldc2 (v := -7000001) C.x C.b C.ow (C.ts _ lkA_c98) dL_act_438 ?_
    exact k_lretX C hX hr hlocks hQ (by omega) (by omega) ⟨by rw [rvI_1 hk], hp⟩ dL_act_441
  · obtain ⟨rm, mc, ms, ⟨q1, q2, q3, q4, q5, q6⟩, hm⟩ := hg
    refine k_catX C (vx_runV (As := [.int a, .int b, .int x, .int y]) (rest := []) C.1 hm (cwV 4 C.ts (gl_up inv_X8_gasket) rfl q1 q2 ⟨rfl, hdA_X8_gasket⟩ ⟨by show rm.frames + 1 ≤ 301; omega, by show 8 + (_ + 11) + rm.locals ≤ 20040; omega⟩) (k_preV C hX hh rfl) rfl rfl hl.1 rfl (lv_room (Nat.le_of_ble_eq_true rfl)) dL_act_153 ⟨by show 0 + mc ≤ 8; omega, by show 0 + ms ≤ 64; omega⟩) hX [(0, 435, 436, 96)] (0, 435, 442, 100) [(0, 435, 448, 104)] htab (fun z9 hz9 => by
      simp only [List.mem_cons, List.not_mem_nil, or_false] at hz9
      rcases hz9 with rfl
      · exact ⟨by decide, "java/lang/IndexOutOfBoundsException", lkA_o, by decide +kernel⟩) (by decide) (by decide) lkA_a inA_a (fun q9 f1 H locs hp hX => ?_)
    refine lv_astore (lv' := [(6, .ref q9), (0, .ref h), (1, .int (nI 9)), (2, .int a), (3, .int b), (4, .int x), (5, .int y)]) C.x C.b dL_act_442 hl (by decide) rfl (fun ls hl => ?_)
    refine lv_ldc2 (v := -7000002) C.x C.b C.ow (C.ts _ lkA_c102) dL_act_444 ?_
    exact k_lretX C hX hr hlocks hQ (by omega) (by omega) ⟨by rw [rvI_2 hk], hp⟩ dL_act_447
  · obtain ⟨rm, mc, ms, ⟨q1, q2, q3, q4, q5, q6⟩, hm⟩ := hg
    refine k_catX C (vx_runV (As := [.int a, .int b, .int x, .int y]) (rest := []) C.1 hm (cwV 4 C.ts (gl_up inv_X8_gasket) rfl q1 q2 ⟨rfl, hdA_X8_gasket⟩ ⟨by show rm.frames + 1 ≤ 301; omega, by show 8 + (_ + 11) + rm.locals ≤ 20040; omega⟩) (k_preV C hX hh rfl) rfl rfl hl.1 rfl (lv_room (Nat.le_of_ble_eq_true rfl)) dL_act_153 ⟨by show 0 + mc ≤ 8; omega, by show 0 + ms ≤ 64; omega⟩) hX [(0, 435, 436, 96), (0, 435, 442, 100)] (0, 435, 448, 104) [] htab (fun z9 hz9 => by
      simp only [List.mem_cons, List.not_mem_nil, or_false] at hz9
      rcases hz9 with rfl | rfl
      · exact ⟨by decide, "java/lang/IndexOutOfBoundsException", lkA_o, by decide +kernel⟩
      · exact ⟨by decide, "java/lang/IllegalArgumentException", lkA_a, by decide +kernel⟩) (by decide) (by decide) lkA_s inA_s (fun q9 f1 H locs hp hX => ?_)
    refine lv_astore (lv' := [(6, .ref q9), (0, .ref h), (1, .int (nI 9)), (2, .int a), (3, .int b), (4, .int x), (5, .int y)]) C.x C.b dL_act_448 hl (by decide) rfl (fun ls hl => ?_)
    refine lv_ldc2 (v := -7000003) C.x C.b C.ow (C.ts _ lkA_c106) dL_act_450 ?_
    exact k_lretX C hX hr hlocks hQ (by omega) (by omega) ⟨by rw [rvI_3 hk], hp⟩ dL_act_453
theorem hdA_X8_turn : yX8_turn.cls ≠ "java/lang/invoke/MethodHandle" ∧ yX8_turn.cls ≠ "java/lang/invoke/VarHandle" ∧ (parseMethodDescriptor yX8_turn.desc).map (fun d => d.parameters.length) = some 2 := by decide +kernel
set_option maxHeartbeats 2000000 in
theorem act_10 {l : Launch} {G : kG} {B0 h : Nat} {f : kH} (hh : ∃ vs, f h = some (.inr (8, vs))) (a b x y : Int32) {R : pRJ} (hc : cJ l G B0 h f yX8_turn wsX8_turn [.int a, .int b] R) : vx_Met l yL_act wsP_act rmA (kP G B0 f [.ref h, .int (nI 10), .int a, .int b, .int x, .int y]) (kQl G B0 (fun r f1 => r = rvJ R ∧ Inv G h f1 R.2.2)) (kXN G B0) 8 64 (kAb B0) := by
  obtain ⟨vs, hh⟩ := hh
  refine kMetH (cc := cL_act) (maxL := 7) (ret := (some .long)) (hh := [(0, 435, 436, 96), (0, 435, 442, 100), (0, 435, 448, 104)]) (by decide) rfl (Nat.le_of_ble_eq_true rfl) ?_
  intro p e s m args below meth c H locs Q ls C hX hl hr hlocks hQ htab
  have hl : lv_has ls 7 [(0, .ref h), (1, .int (nI 10)), (2, .int a), (3, .int b), (4, .int x), (5, .int y)] := hl
  refine lv_iload_n C.x C.b dL_act_0 rfl (lv_at hl 1 rfl) ?_
  refine lv_if_ne (tgt := 13) C.x C.b dL_act_1 (by decide) (fun _ => ?_) (fun q9 => absurd q9 (by decide))
  refine lv_iload_n C.x C.b dL_act_13 rfl (lv_at hl 1 rfl) ?_
  refine lv_iconst (v := nI 1) C.x C.b dL_act_14 (by decide) ?_
  refine lv_icmp_ne (tgt := 28) C.x C.b dL_act_15 (by decide) (fun _ => ?_) (fun q9 => absurd q9 (by decide))
  refine lv_iload_n C.x C.b dL_act_28 rfl (lv_at hl 1 rfl) ?_
  refine lv_iconst (v := nI 2) C.x C.b dL_act_29 (by decide) ?_
  refine lv_icmp_ne (tgt := 43) C.x C.b dL_act_30 (by decide) (fun _ => ?_) (fun q9 => absurd q9 (by decide))
  refine lv_iload_n C.x C.b dL_act_43 rfl (lv_at hl 1 rfl) ?_
  refine lv_iconst (v := nI 3) C.x C.b dL_act_44 (by decide) ?_
  refine lv_icmp_ne (tgt := 58) C.x C.b dL_act_45 (by decide) (fun _ => ?_) (fun q9 => absurd q9 (by decide))
  refine lv_iload_n C.x C.b dL_act_58 rfl (lv_at hl 1 rfl) ?_
  refine lv_iconst (v := nI 4) C.x C.b dL_act_59 (by decide) ?_
  refine lv_icmp_ne (tgt := 72) C.x C.b dL_act_60 (by decide) (fun _ => ?_) (fun q9 => absurd q9 (by decide))
  refine lv_iload_n C.x C.b dL_act_72 rfl (lv_at hl 1 rfl) ?_
  refine lv_iconst (v := nI 5) C.x C.b dL_act_73 (by decide) ?_
  refine lv_icmp_ne (tgt := 89) C.x C.b dL_act_74 (by decide) (fun _ => ?_) (fun q9 => absurd q9 (by decide))
  refine lv_iload_n C.x C.b dL_act_89 rfl (lv_at hl 1 rfl) ?_
  refine lv_bipush (v := nI 6) C.x C.b dL_act_90 (by decide) ?_
  refine lv_icmp_ne (tgt := 109) C.x C.b dL_act_92 (by decide) (fun _ => ?_) (fun q9 => absurd q9 (by decide))
  refine lv_iload_n C.x C.b dL_act_109 rfl (lv_at hl 1 rfl) ?_
  refine lv_bipush (v := nI 7) C.x C.b dL_act_110 (by decide) ?_
  refine lv_icmp_ne (tgt := 125) C.x C.b dL_act_112 (by decide) (fun _ => ?_) (fun q9 => absurd q9 (by decide))
  refine lv_iload_n C.x C.b dL_act_125 rfl (lv_at hl 1 rfl) ?_
  refine lv_bipush (v := nI 8) C.x C.b dL_act_126 (by decide) ?_
  refine lv_icmp_ne (tgt := 140) C.x C.b dL_act_128 (by decide) (fun _ => ?_) (fun q9 => absurd q9 (by decide))
  refine lv_iload_n C.x C.b dL_act_140 rfl (lv_at hl 1 rfl) ?_
  refine lv_bipush (v := nI 9) C.x C.b dL_act_141 (by decide) ?_
  refine lv_icmp_ne (tgt := 160) C.x C.b dL_act_143 (by decide) (fun _ => ?_) (fun q9 => absurd q9 (by decide))
  refine lv_iload_n C.x C.b dL_act_160 rfl (lv_at hl 1 rfl) ?_
  refine lv_bipush (v := nI 10) C.x C.b dL_act_161 (by decide) ?_
  refine lv_icmp_ne (tgt := 175) C.x C.b dL_act_163 (by decide) (fun q9 => absurd rfl q9) (fun _ => ?_)
  refine lv_aload_n C.x C.b dL_act_166 rfl (lv_at hl 0 rfl) ?_
  refine lv_iload_n C.x C.b dL_act_167 rfl (lv_at hl 2 rfl) ?_
  refine lv_iload_n C.x C.b dL_act_168 rfl (lv_at hl 3 rfl) ?_
  rcases hc with ⟨h0, hg⟩ | hn
  · obtain ⟨rm, mc, ms, ⟨q1, q2, q3, q4, q5, q6⟩, hm⟩ := hg
    refine k_calll (va_runV (As := [.int a, .int b]) (rest := []) C.1 hm (cwV 2 C.ts (gl_up inv_X8_turn) rfl q1 q2 ⟨rfl, hdA_X8_turn⟩ ⟨by show rm.frames + 1 ≤ 301; omega, by show 8 + (_ + 11) + rm.locals ≤ 20040; omega⟩) (k_preV C hX hh rfl) rfl rfl hl.1 rfl (lv_room (Nat.le_of_ble_eq_true rfl)) dL_act_169 ⟨by show 0 + mc ≤ 8; omega, by show 0 + ms ≤ 64; omega⟩) hX (fun r0 f1 H locs hp hX => ?_)
    obtain ⟨hr0, hI1⟩ := hp
    refine lv_goto (tgt := 435) C.x C.b dL_act_172 (by decide) ?_
    exact k_lretX C hX hr hlocks hQ (by omega) (by omega) ⟨by rw [rvJ_0 h0, hr0], hI1⟩ dL_act_435
  rcases hn.cs with ⟨hk, hg⟩ | ⟨hk, hg⟩ | ⟨hk, hg⟩
  · obtain ⟨rm, mc, ms, ⟨q1, q2, q3, q4, q5, q6⟩, hm⟩ := hg
    refine k_catX C (vx_runV (As := [.int a, .int b]) (rest := []) C.1 hm (cwV 2 C.ts (gl_up inv_X8_turn) rfl q1 q2 ⟨rfl, hdA_X8_turn⟩ ⟨by show rm.frames + 1 ≤ 301; omega, by show 8 + (_ + 11) + rm.locals ≤ 20040; omega⟩) (k_preV C hX hh rfl) rfl rfl hl.1 rfl (lv_room (Nat.le_of_ble_eq_true rfl)) dL_act_169 ⟨by show 0 + mc ≤ 8; omega, by show 0 + ms ≤ 64; omega⟩) hX [] (0, 435, 436, 96) [(0, 435, 442, 100), (0, 435, 448, 104)] htab (fun z9 hz9 => by simp at hz9) (by decide) (by decide) lkA_o inA_o (fun q9 f1 H locs hp hX => ?_)
    refine lv_astore (lv' := [(6, .ref q9), (0, .ref h), (1, .int (nI 10)), (2, .int a), (3, .int b), (4, .int x), (5, .int y)]) C.x C.b dL_act_436 hl (by decide) rfl (fun ls hl => ?_)
    refine lv_ldc2 (v := -7000001) C.x C.b C.ow (C.ts _ lkA_c98) dL_act_438 ?_
    exact k_lretX C hX hr hlocks hQ (by omega) (by omega) ⟨by rw [rvJ_1 hk], hp⟩ dL_act_441
  · obtain ⟨rm, mc, ms, ⟨q1, q2, q3, q4, q5, q6⟩, hm⟩ := hg
    refine k_catX C (vx_runV (As := [.int a, .int b]) (rest := []) C.1 hm (cwV 2 C.ts (gl_up inv_X8_turn) rfl q1 q2 ⟨rfl, hdA_X8_turn⟩ ⟨by show rm.frames + 1 ≤ 301; omega, by show 8 + (_ + 11) + rm.locals ≤ 20040; omega⟩) (k_preV C hX hh rfl) rfl rfl hl.1 rfl (lv_room (Nat.le_of_ble_eq_true rfl)) dL_act_169 ⟨by show 0 + mc ≤ 8; omega, by show 0 + ms ≤ 64; omega⟩) hX [(0, 435, 436, 96)] (0, 435, 442, 100) [(0, 435, 448, 104)] htab (fun z9 hz9 => by
      simp only [List.mem_cons, List.not_mem_nil, or_false] at hz9
      rcases hz9 with rfl
      · exact ⟨by decide, "java/lang/IndexOutOfBoundsException", lkA_o, by decide +kernel⟩) (by decide) (by decide) lkA_a inA_a (fun q9 f1 H locs hp hX => ?_)
    refine lv_astore (lv' := [(6, .ref q9), (0, .ref h), (1, .int (nI 10)), (2, .int a), (3, .int b), (4, .int x), (5, .int y)]) C.x C.b dL_act_442 hl (by decide) rfl (fun ls hl => ?_)
    refine lv_ldc2 (v := -7000002) C.x C.b C.ow (C.ts _ lkA_c102) dL_act_444 ?_
    exact k_lretX C hX hr hlocks hQ (by omega) (by omega) ⟨by rw [rvJ_2 hk], hp⟩ dL_act_447
  · obtain ⟨rm, mc, ms, ⟨q1, q2, q3, q4, q5, q6⟩, hm⟩ := hg
    refine k_catX C (vx_runV (As := [.int a, .int b]) (rest := []) C.1 hm (cwV 2 C.ts (gl_up inv_X8_turn) rfl q1 q2 ⟨rfl, hdA_X8_turn⟩ ⟨by show rm.frames + 1 ≤ 301; omega, by show 8 + (_ + 11) + rm.locals ≤ 20040; omega⟩) (k_preV C hX hh rfl) rfl rfl hl.1 rfl (lv_room (Nat.le_of_ble_eq_true rfl)) dL_act_169 ⟨by show 0 + mc ≤ 8; omega, by show 0 + ms ≤ 64; omega⟩) hX [(0, 435, 436, 96), (0, 435, 442, 100)] (0, 435, 448, 104) [] htab (fun z9 hz9 => by
      simp only [List.mem_cons, List.not_mem_nil, or_false] at hz9
      rcases hz9 with rfl | rfl
      · exact ⟨by decide, "java/lang/IndexOutOfBoundsException", lkA_o, by decide +kernel⟩
      · exact ⟨by decide, "java/lang/IllegalArgumentException", lkA_a, by decide +kernel⟩) (by decide) (by decide) lkA_s inA_s (fun q9 f1 H locs hp hX => ?_)
    refine lv_astore (lv' := [(6, .ref q9), (0, .ref h), (1, .int (nI 10)), (2, .int a), (3, .int b), (4, .int x), (5, .int y)]) C.x C.b dL_act_448 hl (by decide) rfl (fun ls hl => ?_)
    refine lv_ldc2 (v := -7000003) C.x C.b C.ow (C.ts _ lkA_c106) dL_act_450 ?_
    exact k_lretX C hX hr hlocks hQ (by omega) (by omega) ⟨by rw [rvJ_3 hk], hp⟩ dL_act_453
theorem hdA_X8_curvature : yX8_curvature.cls ≠ "java/lang/invoke/MethodHandle" ∧ yX8_curvature.cls ≠ "java/lang/invoke/VarHandle" ∧ (parseMethodDescriptor yX8_curvature.desc).map (fun d => d.parameters.length) = some 2 := by decide +kernel
set_option maxHeartbeats 2000000 in
theorem act_11 {l : Launch} {G : kG} {B0 h : Nat} {f : kH} (hh : ∃ vs, f h = some (.inr (8, vs))) (a b x y : Int32) {R : pRJ} (hc : cJ l G B0 h f yX8_curvature wsX8_curvature [.int a, .int b] R) : vx_Met l yL_act wsP_act rmA (kP G B0 f [.ref h, .int (nI 11), .int a, .int b, .int x, .int y]) (kQl G B0 (fun r f1 => r = rvJ R ∧ Inv G h f1 R.2.2)) (kXN G B0) 8 64 (kAb B0) := by
  obtain ⟨vs, hh⟩ := hh
  refine kMetH (cc := cL_act) (maxL := 7) (ret := (some .long)) (hh := [(0, 435, 436, 96), (0, 435, 442, 100), (0, 435, 448, 104)]) (by decide) rfl (Nat.le_of_ble_eq_true rfl) ?_
  intro p e s m args below meth c H locs Q ls C hX hl hr hlocks hQ htab
  have hl : lv_has ls 7 [(0, .ref h), (1, .int (nI 11)), (2, .int a), (3, .int b), (4, .int x), (5, .int y)] := hl
  refine lv_iload_n C.x C.b dL_act_0 rfl (lv_at hl 1 rfl) ?_
  refine lv_if_ne (tgt := 13) C.x C.b dL_act_1 (by decide) (fun _ => ?_) (fun q9 => absurd q9 (by decide))
  refine lv_iload_n C.x C.b dL_act_13 rfl (lv_at hl 1 rfl) ?_
  refine lv_iconst (v := nI 1) C.x C.b dL_act_14 (by decide) ?_
  refine lv_icmp_ne (tgt := 28) C.x C.b dL_act_15 (by decide) (fun _ => ?_) (fun q9 => absurd q9 (by decide))
  refine lv_iload_n C.x C.b dL_act_28 rfl (lv_at hl 1 rfl) ?_
  refine lv_iconst (v := nI 2) C.x C.b dL_act_29 (by decide) ?_
  refine lv_icmp_ne (tgt := 43) C.x C.b dL_act_30 (by decide) (fun _ => ?_) (fun q9 => absurd q9 (by decide))
  refine lv_iload_n C.x C.b dL_act_43 rfl (lv_at hl 1 rfl) ?_
  refine lv_iconst (v := nI 3) C.x C.b dL_act_44 (by decide) ?_
  refine lv_icmp_ne (tgt := 58) C.x C.b dL_act_45 (by decide) (fun _ => ?_) (fun q9 => absurd q9 (by decide))
  refine lv_iload_n C.x C.b dL_act_58 rfl (lv_at hl 1 rfl) ?_
  refine lv_iconst (v := nI 4) C.x C.b dL_act_59 (by decide) ?_
  refine lv_icmp_ne (tgt := 72) C.x C.b dL_act_60 (by decide) (fun _ => ?_) (fun q9 => absurd q9 (by decide))
  refine lv_iload_n C.x C.b dL_act_72 rfl (lv_at hl 1 rfl) ?_
  refine lv_iconst (v := nI 5) C.x C.b dL_act_73 (by decide) ?_
  refine lv_icmp_ne (tgt := 89) C.x C.b dL_act_74 (by decide) (fun _ => ?_) (fun q9 => absurd q9 (by decide))
  refine lv_iload_n C.x C.b dL_act_89 rfl (lv_at hl 1 rfl) ?_
  refine lv_bipush (v := nI 6) C.x C.b dL_act_90 (by decide) ?_
  refine lv_icmp_ne (tgt := 109) C.x C.b dL_act_92 (by decide) (fun _ => ?_) (fun q9 => absurd q9 (by decide))
  refine lv_iload_n C.x C.b dL_act_109 rfl (lv_at hl 1 rfl) ?_
  refine lv_bipush (v := nI 7) C.x C.b dL_act_110 (by decide) ?_
  refine lv_icmp_ne (tgt := 125) C.x C.b dL_act_112 (by decide) (fun _ => ?_) (fun q9 => absurd q9 (by decide))
  refine lv_iload_n C.x C.b dL_act_125 rfl (lv_at hl 1 rfl) ?_
  refine lv_bipush (v := nI 8) C.x C.b dL_act_126 (by decide) ?_
  refine lv_icmp_ne (tgt := 140) C.x C.b dL_act_128 (by decide) (fun _ => ?_) (fun q9 => absurd q9 (by decide))
  refine lv_iload_n C.x C.b dL_act_140 rfl (lv_at hl 1 rfl) ?_
  refine lv_bipush (v := nI 9) C.x C.b dL_act_141 (by decide) ?_
  refine lv_icmp_ne (tgt := 160) C.x C.b dL_act_143 (by decide) (fun _ => ?_) (fun q9 => absurd q9 (by decide))
  refine lv_iload_n C.x C.b dL_act_160 rfl (lv_at hl 1 rfl) ?_
  refine lv_bipush (v := nI 10) C.x C.b dL_act_161 (by decide) ?_
  refine lv_icmp_ne (tgt := 175) C.x C.b dL_act_163 (by decide) (fun _ => ?_) (fun q9 => absurd q9 (by decide))
  refine lv_iload_n C.x C.b dL_act_175 rfl (lv_at hl 1 rfl) ?_
  refine lv_bipush (v := nI 11) C.x C.b dL_act_176 (by decide) ?_
  refine lv_icmp_ne (tgt := 190) C.x C.b dL_act_178 (by decide) (fun q9 => absurd rfl q9) (fun _ => ?_)
  refine lv_aload_n C.x C.b dL_act_181 rfl (lv_at hl 0 rfl) ?_
  refine lv_iload_n C.x C.b dL_act_182 rfl (lv_at hl 2 rfl) ?_
  refine lv_iload_n C.x C.b dL_act_183 rfl (lv_at hl 3 rfl) ?_
  rcases hc with ⟨h0, hg⟩ | hn
  · obtain ⟨rm, mc, ms, ⟨q1, q2, q3, q4, q5, q6⟩, hm⟩ := hg
    refine k_calll (va_runV (As := [.int a, .int b]) (rest := []) C.1 hm (cwV 2 C.ts (gl_up inv_X8_curvature) rfl q1 q2 ⟨rfl, hdA_X8_curvature⟩ ⟨by show rm.frames + 1 ≤ 301; omega, by show 8 + (_ + 11) + rm.locals ≤ 20040; omega⟩) (k_preV C hX hh rfl) rfl rfl hl.1 rfl (lv_room (Nat.le_of_ble_eq_true rfl)) dL_act_184 ⟨by show 0 + mc ≤ 8; omega, by show 0 + ms ≤ 64; omega⟩) hX (fun r0 f1 H locs hp hX => ?_)
    obtain ⟨hr0, hI1⟩ := hp
    refine lv_goto (tgt := 435) C.x C.b dL_act_187 (by decide) ?_
    exact k_lretX C hX hr hlocks hQ (by omega) (by omega) ⟨by rw [rvJ_0 h0, hr0], hI1⟩ dL_act_435
  rcases hn.cs with ⟨hk, hg⟩ | ⟨hk, hg⟩ | ⟨hk, hg⟩
  · obtain ⟨rm, mc, ms, ⟨q1, q2, q3, q4, q5, q6⟩, hm⟩ := hg
    refine k_catX C (vx_runV (As := [.int a, .int b]) (rest := []) C.1 hm (cwV 2 C.ts (gl_up inv_X8_curvature) rfl q1 q2 ⟨rfl, hdA_X8_curvature⟩ ⟨by show rm.frames + 1 ≤ 301; omega, by show 8 + (_ + 11) + rm.locals ≤ 20040; omega⟩) (k_preV C hX hh rfl) rfl rfl hl.1 rfl (lv_room (Nat.le_of_ble_eq_true rfl)) dL_act_184 ⟨by show 0 + mc ≤ 8; omega, by show 0 + ms ≤ 64; omega⟩) hX [] (0, 435, 436, 96) [(0, 435, 442, 100), (0, 435, 448, 104)] htab (fun z9 hz9 => by simp at hz9) (by decide) (by decide) lkA_o inA_o (fun q9 f1 H locs hp hX => ?_)
    refine lv_astore (lv' := [(6, .ref q9), (0, .ref h), (1, .int (nI 11)), (2, .int a), (3, .int b), (4, .int x), (5, .int y)]) C.x C.b dL_act_436 hl (by decide) rfl (fun ls hl => ?_)
    refine lv_ldc2 (v := -7000001) C.x C.b C.ow (C.ts _ lkA_c98) dL_act_438 ?_
    exact k_lretX C hX hr hlocks hQ (by omega) (by omega) ⟨by rw [rvJ_1 hk], hp⟩ dL_act_441
  · obtain ⟨rm, mc, ms, ⟨q1, q2, q3, q4, q5, q6⟩, hm⟩ := hg
    refine k_catX C (vx_runV (As := [.int a, .int b]) (rest := []) C.1 hm (cwV 2 C.ts (gl_up inv_X8_curvature) rfl q1 q2 ⟨rfl, hdA_X8_curvature⟩ ⟨by show rm.frames + 1 ≤ 301; omega, by show 8 + (_ + 11) + rm.locals ≤ 20040; omega⟩) (k_preV C hX hh rfl) rfl rfl hl.1 rfl (lv_room (Nat.le_of_ble_eq_true rfl)) dL_act_184 ⟨by show 0 + mc ≤ 8; omega, by show 0 + ms ≤ 64; omega⟩) hX [(0, 435, 436, 96)] (0, 435, 442, 100) [(0, 435, 448, 104)] htab (fun z9 hz9 => by
      simp only [List.mem_cons, List.not_mem_nil, or_false] at hz9
      rcases hz9 with rfl
      · exact ⟨by decide, "java/lang/IndexOutOfBoundsException", lkA_o, by decide +kernel⟩) (by decide) (by decide) lkA_a inA_a (fun q9 f1 H locs hp hX => ?_)
    refine lv_astore (lv' := [(6, .ref q9), (0, .ref h), (1, .int (nI 11)), (2, .int a), (3, .int b), (4, .int x), (5, .int y)]) C.x C.b dL_act_442 hl (by decide) rfl (fun ls hl => ?_)
    refine lv_ldc2 (v := -7000002) C.x C.b C.ow (C.ts _ lkA_c102) dL_act_444 ?_
    exact k_lretX C hX hr hlocks hQ (by omega) (by omega) ⟨by rw [rvJ_2 hk], hp⟩ dL_act_447
  · obtain ⟨rm, mc, ms, ⟨q1, q2, q3, q4, q5, q6⟩, hm⟩ := hg
    refine k_catX C (vx_runV (As := [.int a, .int b]) (rest := []) C.1 hm (cwV 2 C.ts (gl_up inv_X8_curvature) rfl q1 q2 ⟨rfl, hdA_X8_curvature⟩ ⟨by show rm.frames + 1 ≤ 301; omega, by show 8 + (_ + 11) + rm.locals ≤ 20040; omega⟩) (k_preV C hX hh rfl) rfl rfl hl.1 rfl (lv_room (Nat.le_of_ble_eq_true rfl)) dL_act_184 ⟨by show 0 + mc ≤ 8; omega, by show 0 + ms ≤ 64; omega⟩) hX [(0, 435, 436, 96), (0, 435, 442, 100)] (0, 435, 448, 104) [] htab (fun z9 hz9 => by
      simp only [List.mem_cons, List.not_mem_nil, or_false] at hz9
      rcases hz9 with rfl | rfl
      · exact ⟨by decide, "java/lang/IndexOutOfBoundsException", lkA_o, by decide +kernel⟩
      · exact ⟨by decide, "java/lang/IllegalArgumentException", lkA_a, by decide +kernel⟩) (by decide) (by decide) lkA_s inA_s (fun q9 f1 H locs hp hX => ?_)
    refine lv_astore (lv' := [(6, .ref q9), (0, .ref h), (1, .int (nI 11)), (2, .int a), (3, .int b), (4, .int x), (5, .int y)]) C.x C.b dL_act_448 hl (by decide) rfl (fun ls hl => ?_)
    refine lv_ldc2 (v := -7000003) C.x C.b C.ow (C.ts _ lkA_c106) dL_act_450 ?_
    exact k_lretX C hX hr hlocks hQ (by omega) (by omega) ⟨by rw [rvJ_3 hk], hp⟩ dL_act_453
theorem hdA_X8_radius : yX8_radius.cls ≠ "java/lang/invoke/MethodHandle" ∧ yX8_radius.cls ≠ "java/lang/invoke/VarHandle" ∧ (parseMethodDescriptor yX8_radius.desc).map (fun d => d.parameters.length) = some 2 := by decide +kernel
set_option maxHeartbeats 2000000 in
theorem act_12 {l : Launch} {G : kG} {B0 h : Nat} {f : kH} (hh : ∃ vs, f h = some (.inr (8, vs))) (a b x y : Int32) {k : Nat} {m1 : pSt} (hc : pNo l G B0 h f yX8_radius wsX8_radius [.int a, .int b] k m1) : vx_Met l yL_act wsP_act rmA (kP G B0 f [.ref h, .int (nI 12), .int a, .int b, .int x, .int y]) (kQl G B0 (fun r f1 => r = (if k = 1 then -7000001 else if k = 2 then -7000002 else (-7000003 : Int64)) ∧ Inv G h f1 m1)) (kXN G B0) 8 64 (kAb B0) := by
  obtain ⟨vs, hh⟩ := hh
  refine kMetH (cc := cL_act) (maxL := 7) (ret := (some .long)) (hh := [(0, 435, 436, 96), (0, 435, 442, 100), (0, 435, 448, 104)]) (by decide) rfl (Nat.le_of_ble_eq_true rfl) ?_
  intro p e s m args below meth c H locs Q ls C hX hl hr hlocks hQ htab
  have hl : lv_has ls 7 [(0, .ref h), (1, .int (nI 12)), (2, .int a), (3, .int b), (4, .int x), (5, .int y)] := hl
  refine lv_iload_n C.x C.b dL_act_0 rfl (lv_at hl 1 rfl) ?_
  refine lv_if_ne (tgt := 13) C.x C.b dL_act_1 (by decide) (fun _ => ?_) (fun q9 => absurd q9 (by decide))
  refine lv_iload_n C.x C.b dL_act_13 rfl (lv_at hl 1 rfl) ?_
  refine lv_iconst (v := nI 1) C.x C.b dL_act_14 (by decide) ?_
  refine lv_icmp_ne (tgt := 28) C.x C.b dL_act_15 (by decide) (fun _ => ?_) (fun q9 => absurd q9 (by decide))
  refine lv_iload_n C.x C.b dL_act_28 rfl (lv_at hl 1 rfl) ?_
  refine lv_iconst (v := nI 2) C.x C.b dL_act_29 (by decide) ?_
  refine lv_icmp_ne (tgt := 43) C.x C.b dL_act_30 (by decide) (fun _ => ?_) (fun q9 => absurd q9 (by decide))
  refine lv_iload_n C.x C.b dL_act_43 rfl (lv_at hl 1 rfl) ?_
  refine lv_iconst (v := nI 3) C.x C.b dL_act_44 (by decide) ?_
  refine lv_icmp_ne (tgt := 58) C.x C.b dL_act_45 (by decide) (fun _ => ?_) (fun q9 => absurd q9 (by decide))
  refine lv_iload_n C.x C.b dL_act_58 rfl (lv_at hl 1 rfl) ?_
  refine lv_iconst (v := nI 4) C.x C.b dL_act_59 (by decide) ?_
  refine lv_icmp_ne (tgt := 72) C.x C.b dL_act_60 (by decide) (fun _ => ?_) (fun q9 => absurd q9 (by decide))
  refine lv_iload_n C.x C.b dL_act_72 rfl (lv_at hl 1 rfl) ?_
  refine lv_iconst (v := nI 5) C.x C.b dL_act_73 (by decide) ?_
  refine lv_icmp_ne (tgt := 89) C.x C.b dL_act_74 (by decide) (fun _ => ?_) (fun q9 => absurd q9 (by decide))
  refine lv_iload_n C.x C.b dL_act_89 rfl (lv_at hl 1 rfl) ?_
  refine lv_bipush (v := nI 6) C.x C.b dL_act_90 (by decide) ?_
  refine lv_icmp_ne (tgt := 109) C.x C.b dL_act_92 (by decide) (fun _ => ?_) (fun q9 => absurd q9 (by decide))
  refine lv_iload_n C.x C.b dL_act_109 rfl (lv_at hl 1 rfl) ?_
  refine lv_bipush (v := nI 7) C.x C.b dL_act_110 (by decide) ?_
  refine lv_icmp_ne (tgt := 125) C.x C.b dL_act_112 (by decide) (fun _ => ?_) (fun q9 => absurd q9 (by decide))
  refine lv_iload_n C.x C.b dL_act_125 rfl (lv_at hl 1 rfl) ?_
  refine lv_bipush (v := nI 8) C.x C.b dL_act_126 (by decide) ?_
  refine lv_icmp_ne (tgt := 140) C.x C.b dL_act_128 (by decide) (fun _ => ?_) (fun q9 => absurd q9 (by decide))
  refine lv_iload_n C.x C.b dL_act_140 rfl (lv_at hl 1 rfl) ?_
  refine lv_bipush (v := nI 9) C.x C.b dL_act_141 (by decide) ?_
  refine lv_icmp_ne (tgt := 160) C.x C.b dL_act_143 (by decide) (fun _ => ?_) (fun q9 => absurd q9 (by decide))
  refine lv_iload_n C.x C.b dL_act_160 rfl (lv_at hl 1 rfl) ?_
  refine lv_bipush (v := nI 10) C.x C.b dL_act_161 (by decide) ?_
  refine lv_icmp_ne (tgt := 175) C.x C.b dL_act_163 (by decide) (fun _ => ?_) (fun q9 => absurd q9 (by decide))
  refine lv_iload_n C.x C.b dL_act_175 rfl (lv_at hl 1 rfl) ?_
  refine lv_bipush (v := nI 11) C.x C.b dL_act_176 (by decide) ?_
  refine lv_icmp_ne (tgt := 190) C.x C.b dL_act_178 (by decide) (fun _ => ?_) (fun q9 => absurd q9 (by decide))
  refine lv_iload_n C.x C.b dL_act_190 rfl (lv_at hl 1 rfl) ?_
  refine lv_bipush (v := nI 12) C.x C.b dL_act_191 (by decide) ?_
  refine lv_icmp_ne (tgt := 206) C.x C.b dL_act_193 (by decide) (fun q9 => absurd rfl q9) (fun _ => ?_)
  refine lv_aload_n C.x C.b dL_act_196 rfl (lv_at hl 0 rfl) ?_
  refine lv_iload_n C.x C.b dL_act_197 rfl (lv_at hl 2 rfl) ?_
  refine lv_iload_n C.x C.b dL_act_198 rfl (lv_at hl 3 rfl) ?_
  rcases hc.cs with ⟨hk, hg⟩ | ⟨hk, hg⟩ | ⟨hk, hg⟩
  · obtain ⟨rm, mc, ms, ⟨q1, q2, q3, q4, q5, q6⟩, hm⟩ := hg
    refine k_catX C (vx_runV (As := [.int a, .int b]) (rest := []) C.1 hm (cwV 2 C.ts (gl_up inv_X8_radius) rfl q1 q2 ⟨rfl, hdA_X8_radius⟩ ⟨by show rm.frames + 1 ≤ 301; omega, by show 8 + (_ + 11) + rm.locals ≤ 20040; omega⟩) (k_preV C hX hh rfl) rfl rfl hl.1 rfl (lv_room (Nat.le_of_ble_eq_true rfl)) dL_act_199 ⟨by show 0 + mc ≤ 8; omega, by show 0 + ms ≤ 64; omega⟩) hX [] (0, 435, 436, 96) [(0, 435, 442, 100), (0, 435, 448, 104)] htab (fun z9 hz9 => by simp at hz9) (by decide) (by decide) lkA_o inA_o (fun q9 f1 H locs hp hX => ?_)
    refine lv_astore (lv' := [(6, .ref q9), (0, .ref h), (1, .int (nI 12)), (2, .int a), (3, .int b), (4, .int x), (5, .int y)]) C.x C.b dL_act_436 hl (by decide) rfl (fun ls hl => ?_)
    refine lv_ldc2 (v := -7000001) C.x C.b C.ow (C.ts _ lkA_c98) dL_act_438 ?_
    exact k_lretX C hX hr hlocks hQ (by omega) (by omega) ⟨by rw [hk]; rfl, hp⟩ dL_act_441
  · obtain ⟨rm, mc, ms, ⟨q1, q2, q3, q4, q5, q6⟩, hm⟩ := hg
    refine k_catX C (vx_runV (As := [.int a, .int b]) (rest := []) C.1 hm (cwV 2 C.ts (gl_up inv_X8_radius) rfl q1 q2 ⟨rfl, hdA_X8_radius⟩ ⟨by show rm.frames + 1 ≤ 301; omega, by show 8 + (_ + 11) + rm.locals ≤ 20040; omega⟩) (k_preV C hX hh rfl) rfl rfl hl.1 rfl (lv_room (Nat.le_of_ble_eq_true rfl)) dL_act_199 ⟨by show 0 + mc ≤ 8; omega, by show 0 + ms ≤ 64; omega⟩) hX [(0, 435, 436, 96)] (0, 435, 442, 100) [(0, 435, 448, 104)] htab (fun z9 hz9 => by
      simp only [List.mem_cons, List.not_mem_nil, or_false] at hz9
      rcases hz9 with rfl
      · exact ⟨by decide, "java/lang/IndexOutOfBoundsException", lkA_o, by decide +kernel⟩) (by decide) (by decide) lkA_a inA_a (fun q9 f1 H locs hp hX => ?_)
    refine lv_astore (lv' := [(6, .ref q9), (0, .ref h), (1, .int (nI 12)), (2, .int a), (3, .int b), (4, .int x), (5, .int y)]) C.x C.b dL_act_442 hl (by decide) rfl (fun ls hl => ?_)
    refine lv_ldc2 (v := -7000002) C.x C.b C.ow (C.ts _ lkA_c102) dL_act_444 ?_
    exact k_lretX C hX hr hlocks hQ (by omega) (by omega) ⟨by rw [hk]; rfl, hp⟩ dL_act_447
  · obtain ⟨rm, mc, ms, ⟨q1, q2, q3, q4, q5, q6⟩, hm⟩ := hg
    refine k_catX C (vx_runV (As := [.int a, .int b]) (rest := []) C.1 hm (cwV 2 C.ts (gl_up inv_X8_radius) rfl q1 q2 ⟨rfl, hdA_X8_radius⟩ ⟨by show rm.frames + 1 ≤ 301; omega, by show 8 + (_ + 11) + rm.locals ≤ 20040; omega⟩) (k_preV C hX hh rfl) rfl rfl hl.1 rfl (lv_room (Nat.le_of_ble_eq_true rfl)) dL_act_199 ⟨by show 0 + mc ≤ 8; omega, by show 0 + ms ≤ 64; omega⟩) hX [(0, 435, 436, 96), (0, 435, 442, 100)] (0, 435, 448, 104) [] htab (fun z9 hz9 => by
      simp only [List.mem_cons, List.not_mem_nil, or_false] at hz9
      rcases hz9 with rfl | rfl
      · exact ⟨by decide, "java/lang/IndexOutOfBoundsException", lkA_o, by decide +kernel⟩
      · exact ⟨by decide, "java/lang/IllegalArgumentException", lkA_a, by decide +kernel⟩) (by decide) (by decide) lkA_s inA_s (fun q9 f1 H locs hp hX => ?_)
    refine lv_astore (lv' := [(6, .ref q9), (0, .ref h), (1, .int (nI 12)), (2, .int a), (3, .int b), (4, .int x), (5, .int y)]) C.x C.b dL_act_448 hl (by decide) rfl (fun ls hl => ?_)
    refine lv_ldc2 (v := -7000003) C.x C.b C.ow (C.ts _ lkA_c106) dL_act_450 ?_
    exact k_lretX C hX hr hlocks hQ (by omega) (by omega) ⟨by rw [hk]; rfl, hp⟩ dL_act_453
theorem hdA_X8_root : yX8_root.cls ≠ "java/lang/invoke/MethodHandle" ∧ yX8_root.cls ≠ "java/lang/invoke/VarHandle" ∧ (parseMethodDescriptor yX8_root.desc).map (fun d => d.parameters.length) = some 2 := by decide +kernel
set_option maxHeartbeats 2000000 in
theorem act_13 {l : Launch} {G : kG} {B0 h : Nat} {f : kH} (hh : ∃ vs, f h = some (.inr (8, vs))) (a b x y : Int32) {R : pRJ} (hc : cJ l G B0 h f yX8_root wsX8_root [.int a, .int b] R) : vx_Met l yL_act wsP_act rmA (kP G B0 f [.ref h, .int (nI 13), .int a, .int b, .int x, .int y]) (kQl G B0 (fun r f1 => r = rvJ R ∧ Inv G h f1 R.2.2)) (kXN G B0) 8 64 (kAb B0) := by
  obtain ⟨vs, hh⟩ := hh
  refine kMetH (cc := cL_act) (maxL := 7) (ret := (some .long)) (hh := [(0, 435, 436, 96), (0, 435, 442, 100), (0, 435, 448, 104)]) (by decide) rfl (Nat.le_of_ble_eq_true rfl) ?_
  intro p e s m args below meth c H locs Q ls C hX hl hr hlocks hQ htab
  have hl : lv_has ls 7 [(0, .ref h), (1, .int (nI 13)), (2, .int a), (3, .int b), (4, .int x), (5, .int y)] := hl
  refine lv_iload_n C.x C.b dL_act_0 rfl (lv_at hl 1 rfl) ?_
  refine lv_if_ne (tgt := 13) C.x C.b dL_act_1 (by decide) (fun _ => ?_) (fun q9 => absurd q9 (by decide))
  refine lv_iload_n C.x C.b dL_act_13 rfl (lv_at hl 1 rfl) ?_
  refine lv_iconst (v := nI 1) C.x C.b dL_act_14 (by decide) ?_
  refine lv_icmp_ne (tgt := 28) C.x C.b dL_act_15 (by decide) (fun _ => ?_) (fun q9 => absurd q9 (by decide))
  refine lv_iload_n C.x C.b dL_act_28 rfl (lv_at hl 1 rfl) ?_
  refine lv_iconst (v := nI 2) C.x C.b dL_act_29 (by decide) ?_
  refine lv_icmp_ne (tgt := 43) C.x C.b dL_act_30 (by decide) (fun _ => ?_) (fun q9 => absurd q9 (by decide))
  refine lv_iload_n C.x C.b dL_act_43 rfl (lv_at hl 1 rfl) ?_
  refine lv_iconst (v := nI 3) C.x C.b dL_act_44 (by decide) ?_
  refine lv_icmp_ne (tgt := 58) C.x C.b dL_act_45 (by decide) (fun _ => ?_) (fun q9 => absurd q9 (by decide))
  refine lv_iload_n C.x C.b dL_act_58 rfl (lv_at hl 1 rfl) ?_
  refine lv_iconst (v := nI 4) C.x C.b dL_act_59 (by decide) ?_
  refine lv_icmp_ne (tgt := 72) C.x C.b dL_act_60 (by decide) (fun _ => ?_) (fun q9 => absurd q9 (by decide))
  refine lv_iload_n C.x C.b dL_act_72 rfl (lv_at hl 1 rfl) ?_
  refine lv_iconst (v := nI 5) C.x C.b dL_act_73 (by decide) ?_
  refine lv_icmp_ne (tgt := 89) C.x C.b dL_act_74 (by decide) (fun _ => ?_) (fun q9 => absurd q9 (by decide))
  refine lv_iload_n C.x C.b dL_act_89 rfl (lv_at hl 1 rfl) ?_
  refine lv_bipush (v := nI 6) C.x C.b dL_act_90 (by decide) ?_
  refine lv_icmp_ne (tgt := 109) C.x C.b dL_act_92 (by decide) (fun _ => ?_) (fun q9 => absurd q9 (by decide))
  refine lv_iload_n C.x C.b dL_act_109 rfl (lv_at hl 1 rfl) ?_
  refine lv_bipush (v := nI 7) C.x C.b dL_act_110 (by decide) ?_
  refine lv_icmp_ne (tgt := 125) C.x C.b dL_act_112 (by decide) (fun _ => ?_) (fun q9 => absurd q9 (by decide))
  refine lv_iload_n C.x C.b dL_act_125 rfl (lv_at hl 1 rfl) ?_
  refine lv_bipush (v := nI 8) C.x C.b dL_act_126 (by decide) ?_
  refine lv_icmp_ne (tgt := 140) C.x C.b dL_act_128 (by decide) (fun _ => ?_) (fun q9 => absurd q9 (by decide))
  refine lv_iload_n C.x C.b dL_act_140 rfl (lv_at hl 1 rfl) ?_
  refine lv_bipush (v := nI 9) C.x C.b dL_act_141 (by decide) ?_
  refine lv_icmp_ne (tgt := 160) C.x C.b dL_act_143 (by decide) (fun _ => ?_) (fun q9 => absurd q9 (by decide))
  refine lv_iload_n C.x C.b dL_act_160 rfl (lv_at hl 1 rfl) ?_
  refine lv_bipush (v := nI 10) C.x C.b dL_act_161 (by decide) ?_
  refine lv_icmp_ne (tgt := 175) C.x C.b dL_act_163 (by decide) (fun _ => ?_) (fun q9 => absurd q9 (by decide))
  refine lv_iload_n C.x C.b dL_act_175 rfl (lv_at hl 1 rfl) ?_
  refine lv_bipush (v := nI 11) C.x C.b dL_act_176 (by decide) ?_
  refine lv_icmp_ne (tgt := 190) C.x C.b dL_act_178 (by decide) (fun _ => ?_) (fun q9 => absurd q9 (by decide))
  refine lv_iload_n C.x C.b dL_act_190 rfl (lv_at hl 1 rfl) ?_
  refine lv_bipush (v := nI 12) C.x C.b dL_act_191 (by decide) ?_
  refine lv_icmp_ne (tgt := 206) C.x C.b dL_act_193 (by decide) (fun _ => ?_) (fun q9 => absurd q9 (by decide))
  refine lv_iload_n C.x C.b dL_act_206 rfl (lv_at hl 1 rfl) ?_
  refine lv_bipush (v := nI 13) C.x C.b dL_act_207 (by decide) ?_
  refine lv_icmp_ne (tgt := 221) C.x C.b dL_act_209 (by decide) (fun q9 => absurd rfl q9) (fun _ => ?_)
  refine lv_aload_n C.x C.b dL_act_212 rfl (lv_at hl 0 rfl) ?_
  refine lv_iload_n C.x C.b dL_act_213 rfl (lv_at hl 2 rfl) ?_
  refine lv_iload_n C.x C.b dL_act_214 rfl (lv_at hl 3 rfl) ?_
  rcases hc with ⟨h0, hg⟩ | hn
  · obtain ⟨rm, mc, ms, ⟨q1, q2, q3, q4, q5, q6⟩, hm⟩ := hg
    refine k_calll (va_runV (As := [.int a, .int b]) (rest := []) C.1 hm (cwV 2 C.ts (gl_up inv_X8_root) rfl q1 q2 ⟨rfl, hdA_X8_root⟩ ⟨by show rm.frames + 1 ≤ 301; omega, by show 8 + (_ + 11) + rm.locals ≤ 20040; omega⟩) (k_preV C hX hh rfl) rfl rfl hl.1 rfl (lv_room (Nat.le_of_ble_eq_true rfl)) dL_act_215 ⟨by show 0 + mc ≤ 8; omega, by show 0 + ms ≤ 64; omega⟩) hX (fun r0 f1 H locs hp hX => ?_)
    obtain ⟨hr0, hI1⟩ := hp
    refine lv_goto (tgt := 435) C.x C.b dL_act_218 (by decide) ?_
    exact k_lretX C hX hr hlocks hQ (by omega) (by omega) ⟨by rw [rvJ_0 h0, hr0], hI1⟩ dL_act_435
  rcases hn.cs with ⟨hk, hg⟩ | ⟨hk, hg⟩ | ⟨hk, hg⟩
  · obtain ⟨rm, mc, ms, ⟨q1, q2, q3, q4, q5, q6⟩, hm⟩ := hg
    refine k_catX C (vx_runV (As := [.int a, .int b]) (rest := []) C.1 hm (cwV 2 C.ts (gl_up inv_X8_root) rfl q1 q2 ⟨rfl, hdA_X8_root⟩ ⟨by show rm.frames + 1 ≤ 301; omega, by show 8 + (_ + 11) + rm.locals ≤ 20040; omega⟩) (k_preV C hX hh rfl) rfl rfl hl.1 rfl (lv_room (Nat.le_of_ble_eq_true rfl)) dL_act_215 ⟨by show 0 + mc ≤ 8; omega, by show 0 + ms ≤ 64; omega⟩) hX [] (0, 435, 436, 96) [(0, 435, 442, 100), (0, 435, 448, 104)] htab (fun z9 hz9 => by simp at hz9) (by decide) (by decide) lkA_o inA_o (fun q9 f1 H locs hp hX => ?_)
    refine lv_astore (lv' := [(6, .ref q9), (0, .ref h), (1, .int (nI 13)), (2, .int a), (3, .int b), (4, .int x), (5, .int y)]) C.x C.b dL_act_436 hl (by decide) rfl (fun ls hl => ?_)
    refine lv_ldc2 (v := -7000001) C.x C.b C.ow (C.ts _ lkA_c98) dL_act_438 ?_
    exact k_lretX C hX hr hlocks hQ (by omega) (by omega) ⟨by rw [rvJ_1 hk], hp⟩ dL_act_441
  · obtain ⟨rm, mc, ms, ⟨q1, q2, q3, q4, q5, q6⟩, hm⟩ := hg
    refine k_catX C (vx_runV (As := [.int a, .int b]) (rest := []) C.1 hm (cwV 2 C.ts (gl_up inv_X8_root) rfl q1 q2 ⟨rfl, hdA_X8_root⟩ ⟨by show rm.frames + 1 ≤ 301; omega, by show 8 + (_ + 11) + rm.locals ≤ 20040; omega⟩) (k_preV C hX hh rfl) rfl rfl hl.1 rfl (lv_room (Nat.le_of_ble_eq_true rfl)) dL_act_215 ⟨by show 0 + mc ≤ 8; omega, by show 0 + ms ≤ 64; omega⟩) hX [(0, 435, 436, 96)] (0, 435, 442, 100) [(0, 435, 448, 104)] htab (fun z9 hz9 => by
      simp only [List.mem_cons, List.not_mem_nil, or_false] at hz9
      rcases hz9 with rfl
      · exact ⟨by decide, "java/lang/IndexOutOfBoundsException", lkA_o, by decide +kernel⟩) (by decide) (by decide) lkA_a inA_a (fun q9 f1 H locs hp hX => ?_)
    refine lv_astore (lv' := [(6, .ref q9), (0, .ref h), (1, .int (nI 13)), (2, .int a), (3, .int b), (4, .int x), (5, .int y)]) C.x C.b dL_act_442 hl (by decide) rfl (fun ls hl => ?_)
    refine lv_ldc2 (v := -7000002) C.x C.b C.ow (C.ts _ lkA_c102) dL_act_444 ?_
    exact k_lretX C hX hr hlocks hQ (by omega) (by omega) ⟨by rw [rvJ_2 hk], hp⟩ dL_act_447
  · obtain ⟨rm, mc, ms, ⟨q1, q2, q3, q4, q5, q6⟩, hm⟩ := hg
    refine k_catX C (vx_runV (As := [.int a, .int b]) (rest := []) C.1 hm (cwV 2 C.ts (gl_up inv_X8_root) rfl q1 q2 ⟨rfl, hdA_X8_root⟩ ⟨by show rm.frames + 1 ≤ 301; omega, by show 8 + (_ + 11) + rm.locals ≤ 20040; omega⟩) (k_preV C hX hh rfl) rfl rfl hl.1 rfl (lv_room (Nat.le_of_ble_eq_true rfl)) dL_act_215 ⟨by show 0 + mc ≤ 8; omega, by show 0 + ms ≤ 64; omega⟩) hX [(0, 435, 436, 96), (0, 435, 442, 100)] (0, 435, 448, 104) [] htab (fun z9 hz9 => by
      simp only [List.mem_cons, List.not_mem_nil, or_false] at hz9
      rcases hz9 with rfl | rfl
      · exact ⟨by decide, "java/lang/IndexOutOfBoundsException", lkA_o, by decide +kernel⟩
      · exact ⟨by decide, "java/lang/IllegalArgumentException", lkA_a, by decide +kernel⟩) (by decide) (by decide) lkA_s inA_s (fun q9 f1 H locs hp hX => ?_)
    refine lv_astore (lv' := [(6, .ref q9), (0, .ref h), (1, .int (nI 13)), (2, .int a), (3, .int b), (4, .int x), (5, .int y)]) C.x C.b dL_act_448 hl (by decide) rfl (fun ls hl => ?_)
    refine lv_ldc2 (v := -7000003) C.x C.b C.ow (C.ts _ lkA_c106) dL_act_450 ?_
    exact k_lretX C hX hr hlocks hQ (by omega) (by omega) ⟨by rw [rvJ_3 hk], hp⟩ dL_act_453
theorem hdA_X8_count : yX8_count.cls ≠ "java/lang/invoke/MethodHandle" ∧ yX8_count.cls ≠ "java/lang/invoke/VarHandle" ∧ (parseMethodDescriptor yX8_count.desc).map (fun d => d.parameters.length) = some 2 := by decide +kernel
set_option maxHeartbeats 2000000 in
theorem act_14 {l : Launch} {G : kG} {B0 h : Nat} {f : kH} (hh : ∃ vs, f h = some (.inr (8, vs))) (a b x y : Int32) {R : pRI} (hc : cI l G B0 h f yX8_count wsX8_count [.int a, .int b] R) : vx_Met l yL_act wsP_act rmA (kP G B0 f [.ref h, .int (nI 14), .int a, .int b, .int x, .int y]) (kQl G B0 (fun r f1 => r = rvI R ∧ Inv G h f1 R.2.2)) (kXN G B0) 8 64 (kAb B0) := by
  obtain ⟨vs, hh⟩ := hh
  refine kMetH (cc := cL_act) (maxL := 7) (ret := (some .long)) (hh := [(0, 435, 436, 96), (0, 435, 442, 100), (0, 435, 448, 104)]) (by decide) rfl (Nat.le_of_ble_eq_true rfl) ?_
  intro p e s m args below meth c H locs Q ls C hX hl hr hlocks hQ htab
  have hl : lv_has ls 7 [(0, .ref h), (1, .int (nI 14)), (2, .int a), (3, .int b), (4, .int x), (5, .int y)] := hl
  refine lv_iload_n C.x C.b dL_act_0 rfl (lv_at hl 1 rfl) ?_
  refine lv_if_ne (tgt := 13) C.x C.b dL_act_1 (by decide) (fun _ => ?_) (fun q9 => absurd q9 (by decide))
  refine lv_iload_n C.x C.b dL_act_13 rfl (lv_at hl 1 rfl) ?_
  refine lv_iconst (v := nI 1) C.x C.b dL_act_14 (by decide) ?_
  refine lv_icmp_ne (tgt := 28) C.x C.b dL_act_15 (by decide) (fun _ => ?_) (fun q9 => absurd q9 (by decide))
  refine lv_iload_n C.x C.b dL_act_28 rfl (lv_at hl 1 rfl) ?_
  refine lv_iconst (v := nI 2) C.x C.b dL_act_29 (by decide) ?_
  refine lv_icmp_ne (tgt := 43) C.x C.b dL_act_30 (by decide) (fun _ => ?_) (fun q9 => absurd q9 (by decide))
  refine lv_iload_n C.x C.b dL_act_43 rfl (lv_at hl 1 rfl) ?_
  refine lv_iconst (v := nI 3) C.x C.b dL_act_44 (by decide) ?_
  refine lv_icmp_ne (tgt := 58) C.x C.b dL_act_45 (by decide) (fun _ => ?_) (fun q9 => absurd q9 (by decide))
  refine lv_iload_n C.x C.b dL_act_58 rfl (lv_at hl 1 rfl) ?_
  refine lv_iconst (v := nI 4) C.x C.b dL_act_59 (by decide) ?_
  refine lv_icmp_ne (tgt := 72) C.x C.b dL_act_60 (by decide) (fun _ => ?_) (fun q9 => absurd q9 (by decide))
  refine lv_iload_n C.x C.b dL_act_72 rfl (lv_at hl 1 rfl) ?_
  refine lv_iconst (v := nI 5) C.x C.b dL_act_73 (by decide) ?_
  refine lv_icmp_ne (tgt := 89) C.x C.b dL_act_74 (by decide) (fun _ => ?_) (fun q9 => absurd q9 (by decide))
  refine lv_iload_n C.x C.b dL_act_89 rfl (lv_at hl 1 rfl) ?_
  refine lv_bipush (v := nI 6) C.x C.b dL_act_90 (by decide) ?_
  refine lv_icmp_ne (tgt := 109) C.x C.b dL_act_92 (by decide) (fun _ => ?_) (fun q9 => absurd q9 (by decide))
  refine lv_iload_n C.x C.b dL_act_109 rfl (lv_at hl 1 rfl) ?_
  refine lv_bipush (v := nI 7) C.x C.b dL_act_110 (by decide) ?_
  refine lv_icmp_ne (tgt := 125) C.x C.b dL_act_112 (by decide) (fun _ => ?_) (fun q9 => absurd q9 (by decide))
  refine lv_iload_n C.x C.b dL_act_125 rfl (lv_at hl 1 rfl) ?_
  refine lv_bipush (v := nI 8) C.x C.b dL_act_126 (by decide) ?_
  refine lv_icmp_ne (tgt := 140) C.x C.b dL_act_128 (by decide) (fun _ => ?_) (fun q9 => absurd q9 (by decide))
  refine lv_iload_n C.x C.b dL_act_140 rfl (lv_at hl 1 rfl) ?_
  refine lv_bipush (v := nI 9) C.x C.b dL_act_141 (by decide) ?_
  refine lv_icmp_ne (tgt := 160) C.x C.b dL_act_143 (by decide) (fun _ => ?_) (fun q9 => absurd q9 (by decide))
  refine lv_iload_n C.x C.b dL_act_160 rfl (lv_at hl 1 rfl) ?_
  refine lv_bipush (v := nI 10) C.x C.b dL_act_161 (by decide) ?_
  refine lv_icmp_ne (tgt := 175) C.x C.b dL_act_163 (by decide) (fun _ => ?_) (fun q9 => absurd q9 (by decide))
  refine lv_iload_n C.x C.b dL_act_175 rfl (lv_at hl 1 rfl) ?_
  refine lv_bipush (v := nI 11) C.x C.b dL_act_176 (by decide) ?_
  refine lv_icmp_ne (tgt := 190) C.x C.b dL_act_178 (by decide) (fun _ => ?_) (fun q9 => absurd q9 (by decide))
  refine lv_iload_n C.x C.b dL_act_190 rfl (lv_at hl 1 rfl) ?_
  refine lv_bipush (v := nI 12) C.x C.b dL_act_191 (by decide) ?_
  refine lv_icmp_ne (tgt := 206) C.x C.b dL_act_193 (by decide) (fun _ => ?_) (fun q9 => absurd q9 (by decide))
  refine lv_iload_n C.x C.b dL_act_206 rfl (lv_at hl 1 rfl) ?_
  refine lv_bipush (v := nI 13) C.x C.b dL_act_207 (by decide) ?_
  refine lv_icmp_ne (tgt := 221) C.x C.b dL_act_209 (by decide) (fun _ => ?_) (fun q9 => absurd q9 (by decide))
  refine lv_iload_n C.x C.b dL_act_221 rfl (lv_at hl 1 rfl) ?_
  refine lv_bipush (v := nI 14) C.x C.b dL_act_222 (by decide) ?_
  refine lv_icmp_ne (tgt := 237) C.x C.b dL_act_224 (by decide) (fun q9 => absurd rfl q9) (fun _ => ?_)
  refine lv_aload_n C.x C.b dL_act_227 rfl (lv_at hl 0 rfl) ?_
  refine lv_iload_n C.x C.b dL_act_228 rfl (lv_at hl 2 rfl) ?_
  refine lv_iload_n C.x C.b dL_act_229 rfl (lv_at hl 3 rfl) ?_
  rcases hc with ⟨h0, hg⟩ | hn
  · obtain ⟨rm, mc, ms, ⟨q1, q2, q3, q4, q5, q6⟩, hm⟩ := hg
    refine k_calli (va_runV (As := [.int a, .int b]) (rest := []) C.1 hm (cwV 2 C.ts (gl_up inv_X8_count) rfl q1 q2 ⟨rfl, hdA_X8_count⟩ ⟨by show rm.frames + 1 ≤ 301; omega, by show 8 + (_ + 11) + rm.locals ≤ 20040; omega⟩) (k_preV C hX hh rfl) rfl rfl hl.1 rfl (lv_room (Nat.le_of_ble_eq_true rfl)) dL_act_230 ⟨by show 0 + mc ≤ 8; omega, by show 0 + ms ≤ 64; omega⟩) hX (fun r0 f1 H locs hp hX => ?_)
    obtain ⟨hr0, hI1⟩ := hp
    refine lv_i2l (v := r0.toInt64) C.x C.b dL_act_233 rfl ?_
    refine lv_goto (tgt := 435) C.x C.b dL_act_234 (by decide) ?_
    exact k_lretX C hX hr hlocks hQ (by omega) (by omega) ⟨by rw [rvI_0 h0, hr0], hI1⟩ dL_act_435
  rcases hn.cs with ⟨hk, hg⟩ | ⟨hk, hg⟩ | ⟨hk, hg⟩
  · obtain ⟨rm, mc, ms, ⟨q1, q2, q3, q4, q5, q6⟩, hm⟩ := hg
    refine k_catX C (vx_runV (As := [.int a, .int b]) (rest := []) C.1 hm (cwV 2 C.ts (gl_up inv_X8_count) rfl q1 q2 ⟨rfl, hdA_X8_count⟩ ⟨by show rm.frames + 1 ≤ 301; omega, by show 8 + (_ + 11) + rm.locals ≤ 20040; omega⟩) (k_preV C hX hh rfl) rfl rfl hl.1 rfl (lv_room (Nat.le_of_ble_eq_true rfl)) dL_act_230 ⟨by show 0 + mc ≤ 8; omega, by show 0 + ms ≤ 64; omega⟩) hX [] (0, 435, 436, 96) [(0, 435, 442, 100), (0, 435, 448, 104)] htab (fun z9 hz9 => by simp at hz9) (by decide) (by decide) lkA_o inA_o (fun q9 f1 H locs hp hX => ?_)
    refine lv_astore (lv' := [(6, .ref q9), (0, .ref h), (1, .int (nI 14)), (2, .int a), (3, .int b), (4, .int x), (5, .int y)]) C.x C.b dL_act_436 hl (by decide) rfl (fun ls hl => ?_)
    refine lv_ldc2 (v := -7000001) C.x C.b C.ow (C.ts _ lkA_c98) dL_act_438 ?_
    exact k_lretX C hX hr hlocks hQ (by omega) (by omega) ⟨by rw [rvI_1 hk], hp⟩ dL_act_441
  · obtain ⟨rm, mc, ms, ⟨q1, q2, q3, q4, q5, q6⟩, hm⟩ := hg
    refine k_catX C (vx_runV (As := [.int a, .int b]) (rest := []) C.1 hm (cwV 2 C.ts (gl_up inv_X8_count) rfl q1 q2 ⟨rfl, hdA_X8_count⟩ ⟨by show rm.frames + 1 ≤ 301; omega, by show 8 + (_ + 11) + rm.locals ≤ 20040; omega⟩) (k_preV C hX hh rfl) rfl rfl hl.1 rfl (lv_room (Nat.le_of_ble_eq_true rfl)) dL_act_230 ⟨by show 0 + mc ≤ 8; omega, by show 0 + ms ≤ 64; omega⟩) hX [(0, 435, 436, 96)] (0, 435, 442, 100) [(0, 435, 448, 104)] htab (fun z9 hz9 => by
      simp only [List.mem_cons, List.not_mem_nil, or_false] at hz9
      rcases hz9 with rfl
      · exact ⟨by decide, "java/lang/IndexOutOfBoundsException", lkA_o, by decide +kernel⟩) (by decide) (by decide) lkA_a inA_a (fun q9 f1 H locs hp hX => ?_)
    refine lv_astore (lv' := [(6, .ref q9), (0, .ref h), (1, .int (nI 14)), (2, .int a), (3, .int b), (4, .int x), (5, .int y)]) C.x C.b dL_act_442 hl (by decide) rfl (fun ls hl => ?_)
    refine lv_ldc2 (v := -7000002) C.x C.b C.ow (C.ts _ lkA_c102) dL_act_444 ?_
    exact k_lretX C hX hr hlocks hQ (by omega) (by omega) ⟨by rw [rvI_2 hk], hp⟩ dL_act_447
  · obtain ⟨rm, mc, ms, ⟨q1, q2, q3, q4, q5, q6⟩, hm⟩ := hg
    refine k_catX C (vx_runV (As := [.int a, .int b]) (rest := []) C.1 hm (cwV 2 C.ts (gl_up inv_X8_count) rfl q1 q2 ⟨rfl, hdA_X8_count⟩ ⟨by show rm.frames + 1 ≤ 301; omega, by show 8 + (_ + 11) + rm.locals ≤ 20040; omega⟩) (k_preV C hX hh rfl) rfl rfl hl.1 rfl (lv_room (Nat.le_of_ble_eq_true rfl)) dL_act_230 ⟨by show 0 + mc ≤ 8; omega, by show 0 + ms ≤ 64; omega⟩) hX [(0, 435, 436, 96), (0, 435, 442, 100)] (0, 435, 448, 104) [] htab (fun z9 hz9 => by
      simp only [List.mem_cons, List.not_mem_nil, or_false] at hz9
      rcases hz9 with rfl | rfl
      · exact ⟨by decide, "java/lang/IndexOutOfBoundsException", lkA_o, by decide +kernel⟩
      · exact ⟨by decide, "java/lang/IllegalArgumentException", lkA_a, by decide +kernel⟩) (by decide) (by decide) lkA_s inA_s (fun q9 f1 H locs hp hX => ?_)
    refine lv_astore (lv' := [(6, .ref q9), (0, .ref h), (1, .int (nI 14)), (2, .int a), (3, .int b), (4, .int x), (5, .int y)]) C.x C.b dL_act_448 hl (by decide) rfl (fun ls hl => ?_)
    refine lv_ldc2 (v := -7000003) C.x C.b C.ow (C.ts _ lkA_c106) dL_act_450 ?_
    exact k_lretX C hX hr hlocks hQ (by omega) (by omega) ⟨by rw [rvI_3 hk], hp⟩ dL_act_453
theorem hdA_X8_countAnew : yX8_countAnew.cls ≠ "java/lang/invoke/MethodHandle" ∧ yX8_countAnew.cls ≠ "java/lang/invoke/VarHandle" ∧ (parseMethodDescriptor yX8_countAnew.desc).map (fun d => d.parameters.length) = some 2 := by decide +kernel
set_option maxHeartbeats 2000000 in
theorem act_15 {l : Launch} {G : kG} {B0 h : Nat} {f : kH} (hh : ∃ vs, f h = some (.inr (8, vs))) (a b x y : Int32) {R : pRI} (hc : cI l G B0 h f yX8_countAnew wsX8_countAnew [.int a, .int b] R) : vx_Met l yL_act wsP_act rmA (kP G B0 f [.ref h, .int (nI 15), .int a, .int b, .int x, .int y]) (kQl G B0 (fun r f1 => r = rvI R ∧ Inv G h f1 R.2.2)) (kXN G B0) 8 64 (kAb B0) := by
  obtain ⟨vs, hh⟩ := hh
  refine kMetH (cc := cL_act) (maxL := 7) (ret := (some .long)) (hh := [(0, 435, 436, 96), (0, 435, 442, 100), (0, 435, 448, 104)]) (by decide) rfl (Nat.le_of_ble_eq_true rfl) ?_
  intro p e s m args below meth c H locs Q ls C hX hl hr hlocks hQ htab
  have hl : lv_has ls 7 [(0, .ref h), (1, .int (nI 15)), (2, .int a), (3, .int b), (4, .int x), (5, .int y)] := hl
  refine lv_iload_n C.x C.b dL_act_0 rfl (lv_at hl 1 rfl) ?_
  refine lv_if_ne (tgt := 13) C.x C.b dL_act_1 (by decide) (fun _ => ?_) (fun q9 => absurd q9 (by decide))
  refine lv_iload_n C.x C.b dL_act_13 rfl (lv_at hl 1 rfl) ?_
  refine lv_iconst (v := nI 1) C.x C.b dL_act_14 (by decide) ?_
  refine lv_icmp_ne (tgt := 28) C.x C.b dL_act_15 (by decide) (fun _ => ?_) (fun q9 => absurd q9 (by decide))
  refine lv_iload_n C.x C.b dL_act_28 rfl (lv_at hl 1 rfl) ?_
  refine lv_iconst (v := nI 2) C.x C.b dL_act_29 (by decide) ?_
  refine lv_icmp_ne (tgt := 43) C.x C.b dL_act_30 (by decide) (fun _ => ?_) (fun q9 => absurd q9 (by decide))
  refine lv_iload_n C.x C.b dL_act_43 rfl (lv_at hl 1 rfl) ?_
  refine lv_iconst (v := nI 3) C.x C.b dL_act_44 (by decide) ?_
  refine lv_icmp_ne (tgt := 58) C.x C.b dL_act_45 (by decide) (fun _ => ?_) (fun q9 => absurd q9 (by decide))
  refine lv_iload_n C.x C.b dL_act_58 rfl (lv_at hl 1 rfl) ?_
  refine lv_iconst (v := nI 4) C.x C.b dL_act_59 (by decide) ?_
  refine lv_icmp_ne (tgt := 72) C.x C.b dL_act_60 (by decide) (fun _ => ?_) (fun q9 => absurd q9 (by decide))
  refine lv_iload_n C.x C.b dL_act_72 rfl (lv_at hl 1 rfl) ?_
  refine lv_iconst (v := nI 5) C.x C.b dL_act_73 (by decide) ?_
  refine lv_icmp_ne (tgt := 89) C.x C.b dL_act_74 (by decide) (fun _ => ?_) (fun q9 => absurd q9 (by decide))
  refine lv_iload_n C.x C.b dL_act_89 rfl (lv_at hl 1 rfl) ?_
  refine lv_bipush (v := nI 6) C.x C.b dL_act_90 (by decide) ?_
  refine lv_icmp_ne (tgt := 109) C.x C.b dL_act_92 (by decide) (fun _ => ?_) (fun q9 => absurd q9 (by decide))
  refine lv_iload_n C.x C.b dL_act_109 rfl (lv_at hl 1 rfl) ?_
  refine lv_bipush (v := nI 7) C.x C.b dL_act_110 (by decide) ?_
  refine lv_icmp_ne (tgt := 125) C.x C.b dL_act_112 (by decide) (fun _ => ?_) (fun q9 => absurd q9 (by decide))
  refine lv_iload_n C.x C.b dL_act_125 rfl (lv_at hl 1 rfl) ?_
  refine lv_bipush (v := nI 8) C.x C.b dL_act_126 (by decide) ?_
  refine lv_icmp_ne (tgt := 140) C.x C.b dL_act_128 (by decide) (fun _ => ?_) (fun q9 => absurd q9 (by decide))
  refine lv_iload_n C.x C.b dL_act_140 rfl (lv_at hl 1 rfl) ?_
  refine lv_bipush (v := nI 9) C.x C.b dL_act_141 (by decide) ?_
  refine lv_icmp_ne (tgt := 160) C.x C.b dL_act_143 (by decide) (fun _ => ?_) (fun q9 => absurd q9 (by decide))
  refine lv_iload_n C.x C.b dL_act_160 rfl (lv_at hl 1 rfl) ?_
  refine lv_bipush (v := nI 10) C.x C.b dL_act_161 (by decide) ?_
  refine lv_icmp_ne (tgt := 175) C.x C.b dL_act_163 (by decide) (fun _ => ?_) (fun q9 => absurd q9 (by decide))
  refine lv_iload_n C.x C.b dL_act_175 rfl (lv_at hl 1 rfl) ?_
  refine lv_bipush (v := nI 11) C.x C.b dL_act_176 (by decide) ?_
  refine lv_icmp_ne (tgt := 190) C.x C.b dL_act_178 (by decide) (fun _ => ?_) (fun q9 => absurd q9 (by decide))
  refine lv_iload_n C.x C.b dL_act_190 rfl (lv_at hl 1 rfl) ?_
  refine lv_bipush (v := nI 12) C.x C.b dL_act_191 (by decide) ?_
  refine lv_icmp_ne (tgt := 206) C.x C.b dL_act_193 (by decide) (fun _ => ?_) (fun q9 => absurd q9 (by decide))
  refine lv_iload_n C.x C.b dL_act_206 rfl (lv_at hl 1 rfl) ?_
  refine lv_bipush (v := nI 13) C.x C.b dL_act_207 (by decide) ?_
  refine lv_icmp_ne (tgt := 221) C.x C.b dL_act_209 (by decide) (fun _ => ?_) (fun q9 => absurd q9 (by decide))
  refine lv_iload_n C.x C.b dL_act_221 rfl (lv_at hl 1 rfl) ?_
  refine lv_bipush (v := nI 14) C.x C.b dL_act_222 (by decide) ?_
  refine lv_icmp_ne (tgt := 237) C.x C.b dL_act_224 (by decide) (fun _ => ?_) (fun q9 => absurd q9 (by decide))
  refine lv_iload_n C.x C.b dL_act_237 rfl (lv_at hl 1 rfl) ?_
  refine lv_bipush (v := nI 15) C.x C.b dL_act_238 (by decide) ?_
  refine lv_icmp_ne (tgt := 253) C.x C.b dL_act_240 (by decide) (fun q9 => absurd rfl q9) (fun _ => ?_)
  refine lv_aload_n C.x C.b dL_act_243 rfl (lv_at hl 0 rfl) ?_
  refine lv_iload_n C.x C.b dL_act_244 rfl (lv_at hl 2 rfl) ?_
  refine lv_iload_n C.x C.b dL_act_245 rfl (lv_at hl 3 rfl) ?_
  rcases hc with ⟨h0, hg⟩ | hn
  · obtain ⟨rm, mc, ms, ⟨q1, q2, q3, q4, q5, q6⟩, hm⟩ := hg
    refine k_calli (va_runV (As := [.int a, .int b]) (rest := []) C.1 hm (cwV 2 C.ts (gl_up inv_X8_countAnew) rfl q1 q2 ⟨rfl, hdA_X8_countAnew⟩ ⟨by show rm.frames + 1 ≤ 301; omega, by show 8 + (_ + 11) + rm.locals ≤ 20040; omega⟩) (k_preV C hX hh rfl) rfl rfl hl.1 rfl (lv_room (Nat.le_of_ble_eq_true rfl)) dL_act_246 ⟨by show 0 + mc ≤ 8; omega, by show 0 + ms ≤ 64; omega⟩) hX (fun r0 f1 H locs hp hX => ?_)
    obtain ⟨hr0, hI1⟩ := hp
    refine lv_i2l (v := r0.toInt64) C.x C.b dL_act_249 rfl ?_
    refine lv_goto (tgt := 435) C.x C.b dL_act_250 (by decide) ?_
    exact k_lretX C hX hr hlocks hQ (by omega) (by omega) ⟨by rw [rvI_0 h0, hr0], hI1⟩ dL_act_435
  rcases hn.cs with ⟨hk, hg⟩ | ⟨hk, hg⟩ | ⟨hk, hg⟩
  · obtain ⟨rm, mc, ms, ⟨q1, q2, q3, q4, q5, q6⟩, hm⟩ := hg
    refine k_catX C (vx_runV (As := [.int a, .int b]) (rest := []) C.1 hm (cwV 2 C.ts (gl_up inv_X8_countAnew) rfl q1 q2 ⟨rfl, hdA_X8_countAnew⟩ ⟨by show rm.frames + 1 ≤ 301; omega, by show 8 + (_ + 11) + rm.locals ≤ 20040; omega⟩) (k_preV C hX hh rfl) rfl rfl hl.1 rfl (lv_room (Nat.le_of_ble_eq_true rfl)) dL_act_246 ⟨by show 0 + mc ≤ 8; omega, by show 0 + ms ≤ 64; omega⟩) hX [] (0, 435, 436, 96) [(0, 435, 442, 100), (0, 435, 448, 104)] htab (fun z9 hz9 => by simp at hz9) (by decide) (by decide) lkA_o inA_o (fun q9 f1 H locs hp hX => ?_)
    refine lv_astore (lv' := [(6, .ref q9), (0, .ref h), (1, .int (nI 15)), (2, .int a), (3, .int b), (4, .int x), (5, .int y)]) C.x C.b dL_act_436 hl (by decide) rfl (fun ls hl => ?_)
    refine lv_ldc2 (v := -7000001) C.x C.b C.ow (C.ts _ lkA_c98) dL_act_438 ?_
    exact k_lretX C hX hr hlocks hQ (by omega) (by omega) ⟨by rw [rvI_1 hk], hp⟩ dL_act_441
  · obtain ⟨rm, mc, ms, ⟨q1, q2, q3, q4, q5, q6⟩, hm⟩ := hg
    refine k_catX C (vx_runV (As := [.int a, .int b]) (rest := []) C.1 hm (cwV 2 C.ts (gl_up inv_X8_countAnew) rfl q1 q2 ⟨rfl, hdA_X8_countAnew⟩ ⟨by show rm.frames + 1 ≤ 301; omega, by show 8 + (_ + 11) + rm.locals ≤ 20040; omega⟩) (k_preV C hX hh rfl) rfl rfl hl.1 rfl (lv_room (Nat.le_of_ble_eq_true rfl)) dL_act_246 ⟨by show 0 + mc ≤ 8; omega, by show 0 + ms ≤ 64; omega⟩) hX [(0, 435, 436, 96)] (0, 435, 442, 100) [(0, 435, 448, 104)] htab (fun z9 hz9 => by
      simp only [List.mem_cons, List.not_mem_nil, or_false] at hz9
      rcases hz9 with rfl
      · exact ⟨by decide, "java/lang/IndexOutOfBoundsException", lkA_o, by decide +kernel⟩) (by decide) (by decide) lkA_a inA_a (fun q9 f1 H locs hp hX => ?_)
    refine lv_astore (lv' := [(6, .ref q9), (0, .ref h), (1, .int (nI 15)), (2, .int a), (3, .int b), (4, .int x), (5, .int y)]) C.x C.b dL_act_442 hl (by decide) rfl (fun ls hl => ?_)
    refine lv_ldc2 (v := -7000002) C.x C.b C.ow (C.ts _ lkA_c102) dL_act_444 ?_
    exact k_lretX C hX hr hlocks hQ (by omega) (by omega) ⟨by rw [rvI_2 hk], hp⟩ dL_act_447
  · obtain ⟨rm, mc, ms, ⟨q1, q2, q3, q4, q5, q6⟩, hm⟩ := hg
    refine k_catX C (vx_runV (As := [.int a, .int b]) (rest := []) C.1 hm (cwV 2 C.ts (gl_up inv_X8_countAnew) rfl q1 q2 ⟨rfl, hdA_X8_countAnew⟩ ⟨by show rm.frames + 1 ≤ 301; omega, by show 8 + (_ + 11) + rm.locals ≤ 20040; omega⟩) (k_preV C hX hh rfl) rfl rfl hl.1 rfl (lv_room (Nat.le_of_ble_eq_true rfl)) dL_act_246 ⟨by show 0 + mc ≤ 8; omega, by show 0 + ms ≤ 64; omega⟩) hX [(0, 435, 436, 96), (0, 435, 442, 100)] (0, 435, 448, 104) [] htab (fun z9 hz9 => by
      simp only [List.mem_cons, List.not_mem_nil, or_false] at hz9
      rcases hz9 with rfl | rfl
      · exact ⟨by decide, "java/lang/IndexOutOfBoundsException", lkA_o, by decide +kernel⟩
      · exact ⟨by decide, "java/lang/IllegalArgumentException", lkA_a, by decide +kernel⟩) (by decide) (by decide) lkA_s inA_s (fun q9 f1 H locs hp hX => ?_)
    refine lv_astore (lv' := [(6, .ref q9), (0, .ref h), (1, .int (nI 15)), (2, .int a), (3, .int b), (4, .int x), (5, .int y)]) C.x C.b dL_act_448 hl (by decide) rfl (fun ls hl => ?_)
    refine lv_ldc2 (v := -7000003) C.x C.b C.ow (C.ts _ lkA_c106) dL_act_450 ?_
    exact k_lretX C hX hr hlocks hQ (by omega) (by omega) ⟨by rw [rvI_3 hk], hp⟩ dL_act_453
theorem hdA_X8_remainders : yX8_remainders.cls ≠ "java/lang/invoke/MethodHandle" ∧ yX8_remainders.cls ≠ "java/lang/invoke/VarHandle" ∧ (parseMethodDescriptor yX8_remainders.desc).map (fun d => d.parameters.length) = some 2 := by decide +kernel
set_option maxHeartbeats 2000000 in
theorem act_16 {l : Launch} {G : kG} {B0 h : Nat} {f : kH} (hh : ∃ vs, f h = some (.inr (8, vs))) (a b x y : Int32) {R : pRI} (hc : cI l G B0 h f yX8_remainders wsX8_remainders [.int a, .int b] R) : vx_Met l yL_act wsP_act rmA (kP G B0 f [.ref h, .int (nI 16), .int a, .int b, .int x, .int y]) (kQl G B0 (fun r f1 => r = rvI R ∧ Inv G h f1 R.2.2)) (kXN G B0) 8 64 (kAb B0) := by
  obtain ⟨vs, hh⟩ := hh
  refine kMetH (cc := cL_act) (maxL := 7) (ret := (some .long)) (hh := [(0, 435, 436, 96), (0, 435, 442, 100), (0, 435, 448, 104)]) (by decide) rfl (Nat.le_of_ble_eq_true rfl) ?_
  intro p e s m args below meth c H locs Q ls C hX hl hr hlocks hQ htab
  have hl : lv_has ls 7 [(0, .ref h), (1, .int (nI 16)), (2, .int a), (3, .int b), (4, .int x), (5, .int y)] := hl
  refine lv_iload_n C.x C.b dL_act_0 rfl (lv_at hl 1 rfl) ?_
  refine lv_if_ne (tgt := 13) C.x C.b dL_act_1 (by decide) (fun _ => ?_) (fun q9 => absurd q9 (by decide))
  refine lv_iload_n C.x C.b dL_act_13 rfl (lv_at hl 1 rfl) ?_
  refine lv_iconst (v := nI 1) C.x C.b dL_act_14 (by decide) ?_
  refine lv_icmp_ne (tgt := 28) C.x C.b dL_act_15 (by decide) (fun _ => ?_) (fun q9 => absurd q9 (by decide))
  refine lv_iload_n C.x C.b dL_act_28 rfl (lv_at hl 1 rfl) ?_
  refine lv_iconst (v := nI 2) C.x C.b dL_act_29 (by decide) ?_
  refine lv_icmp_ne (tgt := 43) C.x C.b dL_act_30 (by decide) (fun _ => ?_) (fun q9 => absurd q9 (by decide))
  refine lv_iload_n C.x C.b dL_act_43 rfl (lv_at hl 1 rfl) ?_
  refine lv_iconst (v := nI 3) C.x C.b dL_act_44 (by decide) ?_
  refine lv_icmp_ne (tgt := 58) C.x C.b dL_act_45 (by decide) (fun _ => ?_) (fun q9 => absurd q9 (by decide))
  refine lv_iload_n C.x C.b dL_act_58 rfl (lv_at hl 1 rfl) ?_
  refine lv_iconst (v := nI 4) C.x C.b dL_act_59 (by decide) ?_
  refine lv_icmp_ne (tgt := 72) C.x C.b dL_act_60 (by decide) (fun _ => ?_) (fun q9 => absurd q9 (by decide))
  refine lv_iload_n C.x C.b dL_act_72 rfl (lv_at hl 1 rfl) ?_
  refine lv_iconst (v := nI 5) C.x C.b dL_act_73 (by decide) ?_
  refine lv_icmp_ne (tgt := 89) C.x C.b dL_act_74 (by decide) (fun _ => ?_) (fun q9 => absurd q9 (by decide))
  refine lv_iload_n C.x C.b dL_act_89 rfl (lv_at hl 1 rfl) ?_
  refine lv_bipush (v := nI 6) C.x C.b dL_act_90 (by decide) ?_
  refine lv_icmp_ne (tgt := 109) C.x C.b dL_act_92 (by decide) (fun _ => ?_) (fun q9 => absurd q9 (by decide))
  refine lv_iload_n C.x C.b dL_act_109 rfl (lv_at hl 1 rfl) ?_
  refine lv_bipush (v := nI 7) C.x C.b dL_act_110 (by decide) ?_
  refine lv_icmp_ne (tgt := 125) C.x C.b dL_act_112 (by decide) (fun _ => ?_) (fun q9 => absurd q9 (by decide))
  refine lv_iload_n C.x C.b dL_act_125 rfl (lv_at hl 1 rfl) ?_
  refine lv_bipush (v := nI 8) C.x C.b dL_act_126 (by decide) ?_
  refine lv_icmp_ne (tgt := 140) C.x C.b dL_act_128 (by decide) (fun _ => ?_) (fun q9 => absurd q9 (by decide))
  refine lv_iload_n C.x C.b dL_act_140 rfl (lv_at hl 1 rfl) ?_
  refine lv_bipush (v := nI 9) C.x C.b dL_act_141 (by decide) ?_
  refine lv_icmp_ne (tgt := 160) C.x C.b dL_act_143 (by decide) (fun _ => ?_) (fun q9 => absurd q9 (by decide))
  refine lv_iload_n C.x C.b dL_act_160 rfl (lv_at hl 1 rfl) ?_
  refine lv_bipush (v := nI 10) C.x C.b dL_act_161 (by decide) ?_
  refine lv_icmp_ne (tgt := 175) C.x C.b dL_act_163 (by decide) (fun _ => ?_) (fun q9 => absurd q9 (by decide))
  refine lv_iload_n C.x C.b dL_act_175 rfl (lv_at hl 1 rfl) ?_
  refine lv_bipush (v := nI 11) C.x C.b dL_act_176 (by decide) ?_
  refine lv_icmp_ne (tgt := 190) C.x C.b dL_act_178 (by decide) (fun _ => ?_) (fun q9 => absurd q9 (by decide))
  refine lv_iload_n C.x C.b dL_act_190 rfl (lv_at hl 1 rfl) ?_
  refine lv_bipush (v := nI 12) C.x C.b dL_act_191 (by decide) ?_
  refine lv_icmp_ne (tgt := 206) C.x C.b dL_act_193 (by decide) (fun _ => ?_) (fun q9 => absurd q9 (by decide))
  refine lv_iload_n C.x C.b dL_act_206 rfl (lv_at hl 1 rfl) ?_
  refine lv_bipush (v := nI 13) C.x C.b dL_act_207 (by decide) ?_
  refine lv_icmp_ne (tgt := 221) C.x C.b dL_act_209 (by decide) (fun _ => ?_) (fun q9 => absurd q9 (by decide))
  refine lv_iload_n C.x C.b dL_act_221 rfl (lv_at hl 1 rfl) ?_
  refine lv_bipush (v := nI 14) C.x C.b dL_act_222 (by decide) ?_
  refine lv_icmp_ne (tgt := 237) C.x C.b dL_act_224 (by decide) (fun _ => ?_) (fun q9 => absurd q9 (by decide))
  refine lv_iload_n C.x C.b dL_act_237 rfl (lv_at hl 1 rfl) ?_
  refine lv_bipush (v := nI 15) C.x C.b dL_act_238 (by decide) ?_
  refine lv_icmp_ne (tgt := 253) C.x C.b dL_act_240 (by decide) (fun _ => ?_) (fun q9 => absurd q9 (by decide))
  refine lv_iload_n C.x C.b dL_act_253 rfl (lv_at hl 1 rfl) ?_
  refine lv_bipush (v := nI 16) C.x C.b dL_act_254 (by decide) ?_
  refine lv_icmp_ne (tgt := 269) C.x C.b dL_act_256 (by decide) (fun q9 => absurd rfl q9) (fun _ => ?_)
  refine lv_aload_n C.x C.b dL_act_259 rfl (lv_at hl 0 rfl) ?_
  refine lv_iload_n C.x C.b dL_act_260 rfl (lv_at hl 2 rfl) ?_
  refine lv_iload_n C.x C.b dL_act_261 rfl (lv_at hl 3 rfl) ?_
  rcases hc with ⟨h0, hg⟩ | hn
  · obtain ⟨rm, mc, ms, ⟨q1, q2, q3, q4, q5, q6⟩, hm⟩ := hg
    refine k_calli (va_runV (As := [.int a, .int b]) (rest := []) C.1 hm (cwV 2 C.ts (gl_up inv_X8_remainders) rfl q1 q2 ⟨rfl, hdA_X8_remainders⟩ ⟨by show rm.frames + 1 ≤ 301; omega, by show 8 + (_ + 11) + rm.locals ≤ 20040; omega⟩) (k_preV C hX hh rfl) rfl rfl hl.1 rfl (lv_room (Nat.le_of_ble_eq_true rfl)) dL_act_262 ⟨by show 0 + mc ≤ 8; omega, by show 0 + ms ≤ 64; omega⟩) hX (fun r0 f1 H locs hp hX => ?_)
    obtain ⟨hr0, hI1⟩ := hp
    refine lv_i2l (v := r0.toInt64) C.x C.b dL_act_265 rfl ?_
    refine lv_goto (tgt := 435) C.x C.b dL_act_266 (by decide) ?_
    exact k_lretX C hX hr hlocks hQ (by omega) (by omega) ⟨by rw [rvI_0 h0, hr0], hI1⟩ dL_act_435
  rcases hn.cs with ⟨hk, hg⟩ | ⟨hk, hg⟩ | ⟨hk, hg⟩
  · obtain ⟨rm, mc, ms, ⟨q1, q2, q3, q4, q5, q6⟩, hm⟩ := hg
    refine k_catX C (vx_runV (As := [.int a, .int b]) (rest := []) C.1 hm (cwV 2 C.ts (gl_up inv_X8_remainders) rfl q1 q2 ⟨rfl, hdA_X8_remainders⟩ ⟨by show rm.frames + 1 ≤ 301; omega, by show 8 + (_ + 11) + rm.locals ≤ 20040; omega⟩) (k_preV C hX hh rfl) rfl rfl hl.1 rfl (lv_room (Nat.le_of_ble_eq_true rfl)) dL_act_262 ⟨by show 0 + mc ≤ 8; omega, by show 0 + ms ≤ 64; omega⟩) hX [] (0, 435, 436, 96) [(0, 435, 442, 100), (0, 435, 448, 104)] htab (fun z9 hz9 => by simp at hz9) (by decide) (by decide) lkA_o inA_o (fun q9 f1 H locs hp hX => ?_)
    refine lv_astore (lv' := [(6, .ref q9), (0, .ref h), (1, .int (nI 16)), (2, .int a), (3, .int b), (4, .int x), (5, .int y)]) C.x C.b dL_act_436 hl (by decide) rfl (fun ls hl => ?_)
    refine lv_ldc2 (v := -7000001) C.x C.b C.ow (C.ts _ lkA_c98) dL_act_438 ?_
    exact k_lretX C hX hr hlocks hQ (by omega) (by omega) ⟨by rw [rvI_1 hk], hp⟩ dL_act_441
  · obtain ⟨rm, mc, ms, ⟨q1, q2, q3, q4, q5, q6⟩, hm⟩ := hg
    refine k_catX C (vx_runV (As := [.int a, .int b]) (rest := []) C.1 hm (cwV 2 C.ts (gl_up inv_X8_remainders) rfl q1 q2 ⟨rfl, hdA_X8_remainders⟩ ⟨by show rm.frames + 1 ≤ 301; omega, by show 8 + (_ + 11) + rm.locals ≤ 20040; omega⟩) (k_preV C hX hh rfl) rfl rfl hl.1 rfl (lv_room (Nat.le_of_ble_eq_true rfl)) dL_act_262 ⟨by show 0 + mc ≤ 8; omega, by show 0 + ms ≤ 64; omega⟩) hX [(0, 435, 436, 96)] (0, 435, 442, 100) [(0, 435, 448, 104)] htab (fun z9 hz9 => by
      simp only [List.mem_cons, List.not_mem_nil, or_false] at hz9
      rcases hz9 with rfl
      · exact ⟨by decide, "java/lang/IndexOutOfBoundsException", lkA_o, by decide +kernel⟩) (by decide) (by decide) lkA_a inA_a (fun q9 f1 H locs hp hX => ?_)
    refine lv_astore (lv' := [(6, .ref q9), (0, .ref h), (1, .int (nI 16)), (2, .int a), (3, .int b), (4, .int x), (5, .int y)]) C.x C.b dL_act_442 hl (by decide) rfl (fun ls hl => ?_)
    refine lv_ldc2 (v := -7000002) C.x C.b C.ow (C.ts _ lkA_c102) dL_act_444 ?_
    exact k_lretX C hX hr hlocks hQ (by omega) (by omega) ⟨by rw [rvI_2 hk], hp⟩ dL_act_447
  · obtain ⟨rm, mc, ms, ⟨q1, q2, q3, q4, q5, q6⟩, hm⟩ := hg
    refine k_catX C (vx_runV (As := [.int a, .int b]) (rest := []) C.1 hm (cwV 2 C.ts (gl_up inv_X8_remainders) rfl q1 q2 ⟨rfl, hdA_X8_remainders⟩ ⟨by show rm.frames + 1 ≤ 301; omega, by show 8 + (_ + 11) + rm.locals ≤ 20040; omega⟩) (k_preV C hX hh rfl) rfl rfl hl.1 rfl (lv_room (Nat.le_of_ble_eq_true rfl)) dL_act_262 ⟨by show 0 + mc ≤ 8; omega, by show 0 + ms ≤ 64; omega⟩) hX [(0, 435, 436, 96), (0, 435, 442, 100)] (0, 435, 448, 104) [] htab (fun z9 hz9 => by
      simp only [List.mem_cons, List.not_mem_nil, or_false] at hz9
      rcases hz9 with rfl | rfl
      · exact ⟨by decide, "java/lang/IndexOutOfBoundsException", lkA_o, by decide +kernel⟩
      · exact ⟨by decide, "java/lang/IllegalArgumentException", lkA_a, by decide +kernel⟩) (by decide) (by decide) lkA_s inA_s (fun q9 f1 H locs hp hX => ?_)
    refine lv_astore (lv' := [(6, .ref q9), (0, .ref h), (1, .int (nI 16)), (2, .int a), (3, .int b), (4, .int x), (5, .int y)]) C.x C.b dL_act_448 hl (by decide) rfl (fun ls hl => ?_)
    refine lv_ldc2 (v := -7000003) C.x C.b C.ow (C.ts _ lkA_c106) dL_act_450 ?_
    exact k_lretX C hX hr hlocks hQ (by omega) (by omega) ⟨by rw [rvI_3 hk], hp⟩ dL_act_453
theorem hdA_X8_ford : yX8_ford.cls ≠ "java/lang/invoke/MethodHandle" ∧ yX8_ford.cls ≠ "java/lang/invoke/VarHandle" ∧ (parseMethodDescriptor yX8_ford.desc).map (fun d => d.parameters.length) = some 4 := by decide +kernel
set_option maxHeartbeats 2000000 in
theorem act_17 {l : Launch} {G : kG} {B0 h : Nat} {f : kH} (hh : ∃ vs, f h = some (.inr (8, vs))) (a b x y : Int32) {R : pRI} (hc : cI l G B0 h f yX8_ford wsX8_ford [.int a, .int b, .int x, .int y] R) : vx_Met l yL_act wsP_act rmA (kP G B0 f [.ref h, .int (nI 17), .int a, .int b, .int x, .int y]) (kQl G B0 (fun r f1 => r = rvI R ∧ Inv G h f1 R.2.2)) (kXN G B0) 8 64 (kAb B0) := by
  obtain ⟨vs, hh⟩ := hh
  refine kMetH (cc := cL_act) (maxL := 7) (ret := (some .long)) (hh := [(0, 435, 436, 96), (0, 435, 442, 100), (0, 435, 448, 104)]) (by decide) rfl (Nat.le_of_ble_eq_true rfl) ?_
  intro p e s m args below meth c H locs Q ls C hX hl hr hlocks hQ htab
  have hl : lv_has ls 7 [(0, .ref h), (1, .int (nI 17)), (2, .int a), (3, .int b), (4, .int x), (5, .int y)] := hl
  refine lv_iload_n C.x C.b dL_act_0 rfl (lv_at hl 1 rfl) ?_
  refine lv_if_ne (tgt := 13) C.x C.b dL_act_1 (by decide) (fun _ => ?_) (fun q9 => absurd q9 (by decide))
  refine lv_iload_n C.x C.b dL_act_13 rfl (lv_at hl 1 rfl) ?_
  refine lv_iconst (v := nI 1) C.x C.b dL_act_14 (by decide) ?_
  refine lv_icmp_ne (tgt := 28) C.x C.b dL_act_15 (by decide) (fun _ => ?_) (fun q9 => absurd q9 (by decide))
  refine lv_iload_n C.x C.b dL_act_28 rfl (lv_at hl 1 rfl) ?_
  refine lv_iconst (v := nI 2) C.x C.b dL_act_29 (by decide) ?_
  refine lv_icmp_ne (tgt := 43) C.x C.b dL_act_30 (by decide) (fun _ => ?_) (fun q9 => absurd q9 (by decide))
  refine lv_iload_n C.x C.b dL_act_43 rfl (lv_at hl 1 rfl) ?_
  refine lv_iconst (v := nI 3) C.x C.b dL_act_44 (by decide) ?_
  refine lv_icmp_ne (tgt := 58) C.x C.b dL_act_45 (by decide) (fun _ => ?_) (fun q9 => absurd q9 (by decide))
  refine lv_iload_n C.x C.b dL_act_58 rfl (lv_at hl 1 rfl) ?_
  refine lv_iconst (v := nI 4) C.x C.b dL_act_59 (by decide) ?_
  refine lv_icmp_ne (tgt := 72) C.x C.b dL_act_60 (by decide) (fun _ => ?_) (fun q9 => absurd q9 (by decide))
  refine lv_iload_n C.x C.b dL_act_72 rfl (lv_at hl 1 rfl) ?_
  refine lv_iconst (v := nI 5) C.x C.b dL_act_73 (by decide) ?_
  refine lv_icmp_ne (tgt := 89) C.x C.b dL_act_74 (by decide) (fun _ => ?_) (fun q9 => absurd q9 (by decide))
  refine lv_iload_n C.x C.b dL_act_89 rfl (lv_at hl 1 rfl) ?_
  refine lv_bipush (v := nI 6) C.x C.b dL_act_90 (by decide) ?_
  refine lv_icmp_ne (tgt := 109) C.x C.b dL_act_92 (by decide) (fun _ => ?_) (fun q9 => absurd q9 (by decide))
  refine lv_iload_n C.x C.b dL_act_109 rfl (lv_at hl 1 rfl) ?_
  refine lv_bipush (v := nI 7) C.x C.b dL_act_110 (by decide) ?_
  refine lv_icmp_ne (tgt := 125) C.x C.b dL_act_112 (by decide) (fun _ => ?_) (fun q9 => absurd q9 (by decide))
  refine lv_iload_n C.x C.b dL_act_125 rfl (lv_at hl 1 rfl) ?_
  refine lv_bipush (v := nI 8) C.x C.b dL_act_126 (by decide) ?_
  refine lv_icmp_ne (tgt := 140) C.x C.b dL_act_128 (by decide) (fun _ => ?_) (fun q9 => absurd q9 (by decide))
  refine lv_iload_n C.x C.b dL_act_140 rfl (lv_at hl 1 rfl) ?_
  refine lv_bipush (v := nI 9) C.x C.b dL_act_141 (by decide) ?_
  refine lv_icmp_ne (tgt := 160) C.x C.b dL_act_143 (by decide) (fun _ => ?_) (fun q9 => absurd q9 (by decide))
  refine lv_iload_n C.x C.b dL_act_160 rfl (lv_at hl 1 rfl) ?_
  refine lv_bipush (v := nI 10) C.x C.b dL_act_161 (by decide) ?_
  refine lv_icmp_ne (tgt := 175) C.x C.b dL_act_163 (by decide) (fun _ => ?_) (fun q9 => absurd q9 (by decide))
  refine lv_iload_n C.x C.b dL_act_175 rfl (lv_at hl 1 rfl) ?_
  refine lv_bipush (v := nI 11) C.x C.b dL_act_176 (by decide) ?_
  refine lv_icmp_ne (tgt := 190) C.x C.b dL_act_178 (by decide) (fun _ => ?_) (fun q9 => absurd q9 (by decide))
  refine lv_iload_n C.x C.b dL_act_190 rfl (lv_at hl 1 rfl) ?_
  refine lv_bipush (v := nI 12) C.x C.b dL_act_191 (by decide) ?_
  refine lv_icmp_ne (tgt := 206) C.x C.b dL_act_193 (by decide) (fun _ => ?_) (fun q9 => absurd q9 (by decide))
  refine lv_iload_n C.x C.b dL_act_206 rfl (lv_at hl 1 rfl) ?_
  refine lv_bipush (v := nI 13) C.x C.b dL_act_207 (by decide) ?_
  refine lv_icmp_ne (tgt := 221) C.x C.b dL_act_209 (by decide) (fun _ => ?_) (fun q9 => absurd q9 (by decide))
  refine lv_iload_n C.x C.b dL_act_221 rfl (lv_at hl 1 rfl) ?_
  refine lv_bipush (v := nI 14) C.x C.b dL_act_222 (by decide) ?_
  refine lv_icmp_ne (tgt := 237) C.x C.b dL_act_224 (by decide) (fun _ => ?_) (fun q9 => absurd q9 (by decide))
  refine lv_iload_n C.x C.b dL_act_237 rfl (lv_at hl 1 rfl) ?_
  refine lv_bipush (v := nI 15) C.x C.b dL_act_238 (by decide) ?_
  refine lv_icmp_ne (tgt := 253) C.x C.b dL_act_240 (by decide) (fun _ => ?_) (fun q9 => absurd q9 (by decide))
  refine lv_iload_n C.x C.b dL_act_253 rfl (lv_at hl 1 rfl) ?_
  refine lv_bipush (v := nI 16) C.x C.b dL_act_254 (by decide) ?_
  refine lv_icmp_ne (tgt := 269) C.x C.b dL_act_256 (by decide) (fun _ => ?_) (fun q9 => absurd q9 (by decide))
  refine lv_iload_n C.x C.b dL_act_269 rfl (lv_at hl 1 rfl) ?_
  refine lv_bipush (v := nI 17) C.x C.b dL_act_270 (by decide) ?_
  refine lv_icmp_ne (tgt := 289) C.x C.b dL_act_272 (by decide) (fun q9 => absurd rfl q9) (fun _ => ?_)
  refine lv_aload_n C.x C.b dL_act_275 rfl (lv_at hl 0 rfl) ?_
  refine lv_iload_n C.x C.b dL_act_276 rfl (lv_at hl 2 rfl) ?_
  refine lv_iload_n C.x C.b dL_act_277 rfl (lv_at hl 3 rfl) ?_
  refine lv_iload C.x C.b dL_act_278 (lv_at hl 4 rfl) ?_
  refine lv_iload C.x C.b dL_act_280 (lv_at hl 5 rfl) ?_
  rcases hc with ⟨h0, hg⟩ | hn
  · obtain ⟨rm, mc, ms, ⟨q1, q2, q3, q4, q5, q6⟩, hm⟩ := hg
    refine k_calli (va_runV (As := [.int a, .int b, .int x, .int y]) (rest := []) C.1 hm (cwV 4 C.ts (gl_up inv_X8_ford) rfl q1 q2 ⟨rfl, hdA_X8_ford⟩ ⟨by show rm.frames + 1 ≤ 301; omega, by show 8 + (_ + 11) + rm.locals ≤ 20040; omega⟩) (k_preV C hX hh rfl) rfl rfl hl.1 rfl (lv_room (Nat.le_of_ble_eq_true rfl)) dL_act_282 ⟨by show 0 + mc ≤ 8; omega, by show 0 + ms ≤ 64; omega⟩) hX (fun r0 f1 H locs hp hX => ?_)
    obtain ⟨hr0, hI1⟩ := hp
    refine lv_i2l (v := r0.toInt64) C.x C.b dL_act_285 rfl ?_
    refine lv_goto (tgt := 435) C.x C.b dL_act_286 (by decide) ?_
    exact k_lretX C hX hr hlocks hQ (by omega) (by omega) ⟨by rw [rvI_0 h0, hr0], hI1⟩ dL_act_435
  rcases hn.cs with ⟨hk, hg⟩ | ⟨hk, hg⟩ | ⟨hk, hg⟩
  · obtain ⟨rm, mc, ms, ⟨q1, q2, q3, q4, q5, q6⟩, hm⟩ := hg
    refine k_catX C (vx_runV (As := [.int a, .int b, .int x, .int y]) (rest := []) C.1 hm (cwV 4 C.ts (gl_up inv_X8_ford) rfl q1 q2 ⟨rfl, hdA_X8_ford⟩ ⟨by show rm.frames + 1 ≤ 301; omega, by show 8 + (_ + 11) + rm.locals ≤ 20040; omega⟩) (k_preV C hX hh rfl) rfl rfl hl.1 rfl (lv_room (Nat.le_of_ble_eq_true rfl)) dL_act_282 ⟨by show 0 + mc ≤ 8; omega, by show 0 + ms ≤ 64; omega⟩) hX [] (0, 435, 436, 96) [(0, 435, 442, 100), (0, 435, 448, 104)] htab (fun z9 hz9 => by simp at hz9) (by decide) (by decide) lkA_o inA_o (fun q9 f1 H locs hp hX => ?_)
    refine lv_astore (lv' := [(6, .ref q9), (0, .ref h), (1, .int (nI 17)), (2, .int a), (3, .int b), (4, .int x), (5, .int y)]) C.x C.b dL_act_436 hl (by decide) rfl (fun ls hl => ?_)
    refine lv_ldc2 (v := -7000001) C.x C.b C.ow (C.ts _ lkA_c98) dL_act_438 ?_
    exact k_lretX C hX hr hlocks hQ (by omega) (by omega) ⟨by rw [rvI_1 hk], hp⟩ dL_act_441
  · obtain ⟨rm, mc, ms, ⟨q1, q2, q3, q4, q5, q6⟩, hm⟩ := hg
    refine k_catX C (vx_runV (As := [.int a, .int b, .int x, .int y]) (rest := []) C.1 hm (cwV 4 C.ts (gl_up inv_X8_ford) rfl q1 q2 ⟨rfl, hdA_X8_ford⟩ ⟨by show rm.frames + 1 ≤ 301; omega, by show 8 + (_ + 11) + rm.locals ≤ 20040; omega⟩) (k_preV C hX hh rfl) rfl rfl hl.1 rfl (lv_room (Nat.le_of_ble_eq_true rfl)) dL_act_282 ⟨by show 0 + mc ≤ 8; omega, by show 0 + ms ≤ 64; omega⟩) hX [(0, 435, 436, 96)] (0, 435, 442, 100) [(0, 435, 448, 104)] htab (fun z9 hz9 => by
      simp only [List.mem_cons, List.not_mem_nil, or_false] at hz9
      rcases hz9 with rfl
      · exact ⟨by decide, "java/lang/IndexOutOfBoundsException", lkA_o, by decide +kernel⟩) (by decide) (by decide) lkA_a inA_a (fun q9 f1 H locs hp hX => ?_)
    refine lv_astore (lv' := [(6, .ref q9), (0, .ref h), (1, .int (nI 17)), (2, .int a), (3, .int b), (4, .int x), (5, .int y)]) C.x C.b dL_act_442 hl (by decide) rfl (fun ls hl => ?_)
    refine lv_ldc2 (v := -7000002) C.x C.b C.ow (C.ts _ lkA_c102) dL_act_444 ?_
    exact k_lretX C hX hr hlocks hQ (by omega) (by omega) ⟨by rw [rvI_2 hk], hp⟩ dL_act_447
  · obtain ⟨rm, mc, ms, ⟨q1, q2, q3, q4, q5, q6⟩, hm⟩ := hg
    refine k_catX C (vx_runV (As := [.int a, .int b, .int x, .int y]) (rest := []) C.1 hm (cwV 4 C.ts (gl_up inv_X8_ford) rfl q1 q2 ⟨rfl, hdA_X8_ford⟩ ⟨by show rm.frames + 1 ≤ 301; omega, by show 8 + (_ + 11) + rm.locals ≤ 20040; omega⟩) (k_preV C hX hh rfl) rfl rfl hl.1 rfl (lv_room (Nat.le_of_ble_eq_true rfl)) dL_act_282 ⟨by show 0 + mc ≤ 8; omega, by show 0 + ms ≤ 64; omega⟩) hX [(0, 435, 436, 96), (0, 435, 442, 100)] (0, 435, 448, 104) [] htab (fun z9 hz9 => by
      simp only [List.mem_cons, List.not_mem_nil, or_false] at hz9
      rcases hz9 with rfl | rfl
      · exact ⟨by decide, "java/lang/IndexOutOfBoundsException", lkA_o, by decide +kernel⟩
      · exact ⟨by decide, "java/lang/IllegalArgumentException", lkA_a, by decide +kernel⟩) (by decide) (by decide) lkA_s inA_s (fun q9 f1 H locs hp hX => ?_)
    refine lv_astore (lv' := [(6, .ref q9), (0, .ref h), (1, .int (nI 17)), (2, .int a), (3, .int b), (4, .int x), (5, .int y)]) C.x C.b dL_act_448 hl (by decide) rfl (fun ls hl => ?_)
    refine lv_ldc2 (v := -7000003) C.x C.b C.ow (C.ts _ lkA_c106) dL_act_450 ?_
    exact k_lretX C hX hr hlocks hQ (by omega) (by omega) ⟨by rw [rvI_3 hk], hp⟩ dL_act_453
