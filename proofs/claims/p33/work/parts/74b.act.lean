theorem hdA_X8_split : yX8_split.cls ≠ "java/lang/invoke/MethodHandle" ∧ yX8_split.cls ≠ "java/lang/invoke/VarHandle" ∧ (parseMethodDescriptor yX8_split.desc).map (fun d => d.parameters.length) = some 1 := by decide +kernel
set_option maxHeartbeats 2000000 in
theorem act_0 {l : Launch} {G : kG} {B0 h : Nat} {f : kH} (hh : ∃ vs, f h = some (.inr (8, vs))) (a b x y : Int32) {R : pRI} (hc : cI l G B0 h f yX8_split wsX8_split [.int a] R) : vx_Met l yL_act wsP_act rmA (kP G B0 f [.ref h, .int (nI 0), .int a, .int b, .int x, .int y]) (kQl G B0 (fun r f1 => r = rvI R ∧ Inv G h f1 R.2.2)) (kXN G B0) 8 64 (kAb B0) := by
  obtain ⟨vs, hh⟩ := hh
  refine kMetH (cc := cL_act) (maxL := 7) (ret := (some .long)) (hh := [(0, 435, 436, 96), (0, 435, 442, 100), (0, 435, 448, 104)]) (by decide) rfl (Nat.le_of_ble_eq_true rfl) ?_
  intro p e s m args below meth c H locs Q ls C hX hl hr hlocks hQ htab
  have hl : lv_has ls 7 [(0, .ref h), (1, .int (nI 0)), (2, .int a), (3, .int b), (4, .int x), (5, .int y)] := hl
  refine lv_iload_n C.x C.b dL_act_0 rfl (lv_at hl 1 rfl) ?_
  refine lv_if_ne (tgt := 13) C.x C.b dL_act_1 (by decide) (fun q9 => absurd rfl q9) (fun _ => ?_)
  refine lv_aload_n C.x C.b dL_act_4 rfl (lv_at hl 0 rfl) ?_
  refine lv_iload_n C.x C.b dL_act_5 rfl (lv_at hl 2 rfl) ?_
  rcases hc with ⟨h0, hg⟩ | hn
  · obtain ⟨rm, mc, ms, ⟨q1, q2, q3, q4, q5, q6⟩, hm⟩ := hg
    refine k_calli (va_runV (As := [.int a]) (rest := []) C.1 hm (cwV 1 C.ts (gl_up inv_X8_split) rfl q1 q2 ⟨rfl, hdA_X8_split⟩ ⟨by show rm.frames + 1 ≤ 301; omega, by show 8 + (_ + 11) + rm.locals ≤ 20040; omega⟩) (k_preV C hX hh rfl) rfl rfl hl.1 rfl (lv_room (Nat.le_of_ble_eq_true rfl)) dL_act_6 ⟨by show 0 + mc ≤ 8; omega, by show 0 + ms ≤ 64; omega⟩) hX (fun r0 f1 H locs hp hX => ?_)
    obtain ⟨hr0, hI1⟩ := hp
    refine lv_i2l (v := r0.toInt64) C.x C.b dL_act_9 rfl ?_
    refine lv_goto (tgt := 435) C.x C.b dL_act_10 (by decide) ?_
    exact k_lretX C hX hr hlocks hQ (by omega) (by omega) ⟨by rw [rvI_0 h0, hr0], hI1⟩ dL_act_435
  rcases hn.cs with ⟨hk, hg⟩ | ⟨hk, hg⟩ | ⟨hk, hg⟩
  · obtain ⟨rm, mc, ms, ⟨q1, q2, q3, q4, q5, q6⟩, hm⟩ := hg
    refine k_catX C (vx_runV (As := [.int a]) (rest := []) C.1 hm (cwV 1 C.ts (gl_up inv_X8_split) rfl q1 q2 ⟨rfl, hdA_X8_split⟩ ⟨by show rm.frames + 1 ≤ 301; omega, by show 8 + (_ + 11) + rm.locals ≤ 20040; omega⟩) (k_preV C hX hh rfl) rfl rfl hl.1 rfl (lv_room (Nat.le_of_ble_eq_true rfl)) dL_act_6 ⟨by show 0 + mc ≤ 8; omega, by show 0 + ms ≤ 64; omega⟩) hX [] (0, 435, 436, 96) [(0, 435, 442, 100), (0, 435, 448, 104)] htab (fun z9 hz9 => by simp at hz9) (by decide) (by decide) lkA_o inA_o (fun q9 f1 H locs hp hX => ?_)
    refine lv_astore (lv' := [(6, .ref q9), (0, .ref h), (1, .int (nI 0)), (2, .int a), (3, .int b), (4, .int x), (5, .int y)]) C.x C.b dL_act_436 hl (by decide) rfl (fun ls hl => ?_)
    refine lv_ldc2 (v := -7000001) C.x C.b C.ow (C.ts _ lkA_c98) dL_act_438 ?_
    exact k_lretX C hX hr hlocks hQ (by omega) (by omega) ⟨by rw [rvI_1 hk], hp⟩ dL_act_441
  · obtain ⟨rm, mc, ms, ⟨q1, q2, q3, q4, q5, q6⟩, hm⟩ := hg
    refine k_catX C (vx_runV (As := [.int a]) (rest := []) C.1 hm (cwV 1 C.ts (gl_up inv_X8_split) rfl q1 q2 ⟨rfl, hdA_X8_split⟩ ⟨by show rm.frames + 1 ≤ 301; omega, by show 8 + (_ + 11) + rm.locals ≤ 20040; omega⟩) (k_preV C hX hh rfl) rfl rfl hl.1 rfl (lv_room (Nat.le_of_ble_eq_true rfl)) dL_act_6 ⟨by show 0 + mc ≤ 8; omega, by show 0 + ms ≤ 64; omega⟩) hX [(0, 435, 436, 96)] (0, 435, 442, 100) [(0, 435, 448, 104)] htab (fun z9 hz9 => by
      simp only [List.mem_cons, List.not_mem_nil, or_false] at hz9
      rcases hz9 with rfl
      · exact ⟨by decide, "java/lang/IndexOutOfBoundsException", lkA_o, by decide +kernel⟩) (by decide) (by decide) lkA_a inA_a (fun q9 f1 H locs hp hX => ?_)
    refine lv_astore (lv' := [(6, .ref q9), (0, .ref h), (1, .int (nI 0)), (2, .int a), (3, .int b), (4, .int x), (5, .int y)]) C.x C.b dL_act_442 hl (by decide) rfl (fun ls hl => ?_)
    refine lv_ldc2 (v := -7000002) C.x C.b C.ow (C.ts _ lkA_c102) dL_act_444 ?_
    exact k_lretX C hX hr hlocks hQ (by omega) (by omega) ⟨by rw [rvI_2 hk], hp⟩ dL_act_447
  · obtain ⟨rm, mc, ms, ⟨q1, q2, q3, q4, q5, q6⟩, hm⟩ := hg
    refine k_catX C (vx_runV (As := [.int a]) (rest := []) C.1 hm (cwV 1 C.ts (gl_up inv_X8_split) rfl q1 q2 ⟨rfl, hdA_X8_split⟩ ⟨by show rm.frames + 1 ≤ 301; omega, by show 8 + (_ + 11) + rm.locals ≤ 20040; omega⟩) (k_preV C hX hh rfl) rfl rfl hl.1 rfl (lv_room (Nat.le_of_ble_eq_true rfl)) dL_act_6 ⟨by show 0 + mc ≤ 8; omega, by show 0 + ms ≤ 64; omega⟩) hX [(0, 435, 436, 96), (0, 435, 442, 100)] (0, 435, 448, 104) [] htab (fun z9 hz9 => by
      simp only [List.mem_cons, List.not_mem_nil, or_false] at hz9
      rcases hz9 with rfl | rfl
      · exact ⟨by decide, "java/lang/IndexOutOfBoundsException", lkA_o, by decide +kernel⟩
      · exact ⟨by decide, "java/lang/IllegalArgumentException", lkA_a, by decide +kernel⟩) (by decide) (by decide) lkA_s inA_s (fun q9 f1 H locs hp hX => ?_)
    refine lv_astore (lv' := [(6, .ref q9), (0, .ref h), (1, .int (nI 0)), (2, .int a), (3, .int b), (4, .int x), (5, .int y)]) C.x C.b dL_act_448 hl (by decide) rfl (fun ls hl => ?_)
    refine lv_ldc2 (v := -7000003) C.x C.b C.ow (C.ts _ lkA_c106) dL_act_450 ?_
    exact k_lretX C hX hr hlocks hQ (by omega) (by omega) ⟨by rw [rvI_3 hk], hp⟩ dL_act_453
theorem hdA_X8_flip : yX8_flip.cls ≠ "java/lang/invoke/MethodHandle" ∧ yX8_flip.cls ≠ "java/lang/invoke/VarHandle" ∧ (parseMethodDescriptor yX8_flip.desc).map (fun d => d.parameters.length) = some 2 := by decide +kernel
set_option maxHeartbeats 2000000 in
theorem act_1 {l : Launch} {G : kG} {B0 h : Nat} {f : kH} (hh : ∃ vs, f h = some (.inr (8, vs))) (a b x y : Int32) {R : pRI} (hc : cI l G B0 h f yX8_flip wsX8_flip [.int a, .int b] R) : vx_Met l yL_act wsP_act rmA (kP G B0 f [.ref h, .int (nI 1), .int a, .int b, .int x, .int y]) (kQl G B0 (fun r f1 => r = rvI R ∧ Inv G h f1 R.2.2)) (kXN G B0) 8 64 (kAb B0) := by
  obtain ⟨vs, hh⟩ := hh
  refine kMetH (cc := cL_act) (maxL := 7) (ret := (some .long)) (hh := [(0, 435, 436, 96), (0, 435, 442, 100), (0, 435, 448, 104)]) (by decide) rfl (Nat.le_of_ble_eq_true rfl) ?_
  intro p e s m args below meth c H locs Q ls C hX hl hr hlocks hQ htab
  have hl : lv_has ls 7 [(0, .ref h), (1, .int (nI 1)), (2, .int a), (3, .int b), (4, .int x), (5, .int y)] := hl
  refine lv_iload_n C.x C.b dL_act_0 rfl (lv_at hl 1 rfl) ?_
  refine lv_if_ne (tgt := 13) C.x C.b dL_act_1 (by decide) (fun _ => ?_) (fun q9 => absurd q9 (by decide))
  refine lv_iload_n C.x C.b dL_act_13 rfl (lv_at hl 1 rfl) ?_
  refine lv_iconst (v := nI 1) C.x C.b dL_act_14 (by decide) ?_
  refine lv_icmp_ne (tgt := 28) C.x C.b dL_act_15 (by decide) (fun q9 => absurd rfl q9) (fun _ => ?_)
  refine lv_aload_n C.x C.b dL_act_18 rfl (lv_at hl 0 rfl) ?_
  refine lv_iload_n C.x C.b dL_act_19 rfl (lv_at hl 2 rfl) ?_
  refine lv_iload_n C.x C.b dL_act_20 rfl (lv_at hl 3 rfl) ?_
  rcases hc with ⟨h0, hg⟩ | hn
  · obtain ⟨rm, mc, ms, ⟨q1, q2, q3, q4, q5, q6⟩, hm⟩ := hg
    refine k_calli (va_runV (As := [.int a, .int b]) (rest := []) C.1 hm (cwV 2 C.ts (gl_up inv_X8_flip) rfl q1 q2 ⟨rfl, hdA_X8_flip⟩ ⟨by show rm.frames + 1 ≤ 301; omega, by show 8 + (_ + 11) + rm.locals ≤ 20040; omega⟩) (k_preV C hX hh rfl) rfl rfl hl.1 rfl (lv_room (Nat.le_of_ble_eq_true rfl)) dL_act_21 ⟨by show 0 + mc ≤ 8; omega, by show 0 + ms ≤ 64; omega⟩) hX (fun r0 f1 H locs hp hX => ?_)
    obtain ⟨hr0, hI1⟩ := hp
    refine lv_i2l (v := r0.toInt64) C.x C.b dL_act_24 rfl ?_
    refine lv_goto (tgt := 435) C.x C.b dL_act_25 (by decide) ?_
    exact k_lretX C hX hr hlocks hQ (by omega) (by omega) ⟨by rw [rvI_0 h0, hr0], hI1⟩ dL_act_435
  rcases hn.cs with ⟨hk, hg⟩ | ⟨hk, hg⟩ | ⟨hk, hg⟩
  · obtain ⟨rm, mc, ms, ⟨q1, q2, q3, q4, q5, q6⟩, hm⟩ := hg
    refine k_catX C (vx_runV (As := [.int a, .int b]) (rest := []) C.1 hm (cwV 2 C.ts (gl_up inv_X8_flip) rfl q1 q2 ⟨rfl, hdA_X8_flip⟩ ⟨by show rm.frames + 1 ≤ 301; omega, by show 8 + (_ + 11) + rm.locals ≤ 20040; omega⟩) (k_preV C hX hh rfl) rfl rfl hl.1 rfl (lv_room (Nat.le_of_ble_eq_true rfl)) dL_act_21 ⟨by show 0 + mc ≤ 8; omega, by show 0 + ms ≤ 64; omega⟩) hX [] (0, 435, 436, 96) [(0, 435, 442, 100), (0, 435, 448, 104)] htab (fun z9 hz9 => by simp at hz9) (by decide) (by decide) lkA_o inA_o (fun q9 f1 H locs hp hX => ?_)
    refine lv_astore (lv' := [(6, .ref q9), (0, .ref h), (1, .int (nI 1)), (2, .int a), (3, .int b), (4, .int x), (5, .int y)]) C.x C.b dL_act_436 hl (by decide) rfl (fun ls hl => ?_)
    refine lv_ldc2 (v := -7000001) C.x C.b C.ow (C.ts _ lkA_c98) dL_act_438 ?_
    exact k_lretX C hX hr hlocks hQ (by omega) (by omega) ⟨by rw [rvI_1 hk], hp⟩ dL_act_441
  · obtain ⟨rm, mc, ms, ⟨q1, q2, q3, q4, q5, q6⟩, hm⟩ := hg
    refine k_catX C (vx_runV (As := [.int a, .int b]) (rest := []) C.1 hm (cwV 2 C.ts (gl_up inv_X8_flip) rfl q1 q2 ⟨rfl, hdA_X8_flip⟩ ⟨by show rm.frames + 1 ≤ 301; omega, by show 8 + (_ + 11) + rm.locals ≤ 20040; omega⟩) (k_preV C hX hh rfl) rfl rfl hl.1 rfl (lv_room (Nat.le_of_ble_eq_true rfl)) dL_act_21 ⟨by show 0 + mc ≤ 8; omega, by show 0 + ms ≤ 64; omega⟩) hX [(0, 435, 436, 96)] (0, 435, 442, 100) [(0, 435, 448, 104)] htab (fun z9 hz9 => by
      simp only [List.mem_cons, List.not_mem_nil, or_false] at hz9
      rcases hz9 with rfl
      · exact ⟨by decide, "java/lang/IndexOutOfBoundsException", lkA_o, by decide +kernel⟩) (by decide) (by decide) lkA_a inA_a (fun q9 f1 H locs hp hX => ?_)
    refine lv_astore (lv' := [(6, .ref q9), (0, .ref h), (1, .int (nI 1)), (2, .int a), (3, .int b), (4, .int x), (5, .int y)]) C.x C.b dL_act_442 hl (by decide) rfl (fun ls hl => ?_)
    refine lv_ldc2 (v := -7000002) C.x C.b C.ow (C.ts _ lkA_c102) dL_act_444 ?_
    exact k_lretX C hX hr hlocks hQ (by omega) (by omega) ⟨by rw [rvI_2 hk], hp⟩ dL_act_447
  · obtain ⟨rm, mc, ms, ⟨q1, q2, q3, q4, q5, q6⟩, hm⟩ := hg
    refine k_catX C (vx_runV (As := [.int a, .int b]) (rest := []) C.1 hm (cwV 2 C.ts (gl_up inv_X8_flip) rfl q1 q2 ⟨rfl, hdA_X8_flip⟩ ⟨by show rm.frames + 1 ≤ 301; omega, by show 8 + (_ + 11) + rm.locals ≤ 20040; omega⟩) (k_preV C hX hh rfl) rfl rfl hl.1 rfl (lv_room (Nat.le_of_ble_eq_true rfl)) dL_act_21 ⟨by show 0 + mc ≤ 8; omega, by show 0 + ms ≤ 64; omega⟩) hX [(0, 435, 436, 96), (0, 435, 442, 100)] (0, 435, 448, 104) [] htab (fun z9 hz9 => by
      simp only [List.mem_cons, List.not_mem_nil, or_false] at hz9
      rcases hz9 with rfl | rfl
      · exact ⟨by decide, "java/lang/IndexOutOfBoundsException", lkA_o, by decide +kernel⟩
      · exact ⟨by decide, "java/lang/IllegalArgumentException", lkA_a, by decide +kernel⟩) (by decide) (by decide) lkA_s inA_s (fun q9 f1 H locs hp hX => ?_)
    refine lv_astore (lv' := [(6, .ref q9), (0, .ref h), (1, .int (nI 1)), (2, .int a), (3, .int b), (4, .int x), (5, .int y)]) C.x C.b dL_act_448 hl (by decide) rfl (fun ls hl => ?_)
    refine lv_ldc2 (v := -7000003) C.x C.b C.ow (C.ts _ lkA_c106) dL_act_450 ?_
    exact k_lretX C hX hr hlocks hQ (by omega) (by omega) ⟨by rw [rvI_3 hk], hp⟩ dL_act_453
theorem hdA_X8_corner : yX8_corner.cls ≠ "java/lang/invoke/MethodHandle" ∧ yX8_corner.cls ≠ "java/lang/invoke/VarHandle" ∧ (parseMethodDescriptor yX8_corner.desc).map (fun d => d.parameters.length) = some 2 := by decide +kernel
set_option maxHeartbeats 2000000 in
theorem act_2 {l : Launch} {G : kG} {B0 h : Nat} {f : kH} (hh : ∃ vs, f h = some (.inr (8, vs))) (a b x y : Int32) {R : pRI} (hc : cI l G B0 h f yX8_corner wsX8_corner [.int a, .int b] R) : vx_Met l yL_act wsP_act rmA (kP G B0 f [.ref h, .int (nI 2), .int a, .int b, .int x, .int y]) (kQl G B0 (fun r f1 => r = rvI R ∧ Inv G h f1 R.2.2)) (kXN G B0) 8 64 (kAb B0) := by
  obtain ⟨vs, hh⟩ := hh
  refine kMetH (cc := cL_act) (maxL := 7) (ret := (some .long)) (hh := [(0, 435, 436, 96), (0, 435, 442, 100), (0, 435, 448, 104)]) (by decide) rfl (Nat.le_of_ble_eq_true rfl) ?_
  intro p e s m args below meth c H locs Q ls C hX hl hr hlocks hQ htab
  have hl : lv_has ls 7 [(0, .ref h), (1, .int (nI 2)), (2, .int a), (3, .int b), (4, .int x), (5, .int y)] := hl
  refine lv_iload_n C.x C.b dL_act_0 rfl (lv_at hl 1 rfl) ?_
  refine lv_if_ne (tgt := 13) C.x C.b dL_act_1 (by decide) (fun _ => ?_) (fun q9 => absurd q9 (by decide))
  refine lv_iload_n C.x C.b dL_act_13 rfl (lv_at hl 1 rfl) ?_
  refine lv_iconst (v := nI 1) C.x C.b dL_act_14 (by decide) ?_
  refine lv_icmp_ne (tgt := 28) C.x C.b dL_act_15 (by decide) (fun _ => ?_) (fun q9 => absurd q9 (by decide))
  refine lv_iload_n C.x C.b dL_act_28 rfl (lv_at hl 1 rfl) ?_
  refine lv_iconst (v := nI 2) C.x C.b dL_act_29 (by decide) ?_
  refine lv_icmp_ne (tgt := 43) C.x C.b dL_act_30 (by decide) (fun q9 => absurd rfl q9) (fun _ => ?_)
  refine lv_aload_n C.x C.b dL_act_33 rfl (lv_at hl 0 rfl) ?_
  refine lv_iload_n C.x C.b dL_act_34 rfl (lv_at hl 2 rfl) ?_
  refine lv_iload_n C.x C.b dL_act_35 rfl (lv_at hl 3 rfl) ?_
  rcases hc with ⟨h0, hg⟩ | hn
  · obtain ⟨rm, mc, ms, ⟨q1, q2, q3, q4, q5, q6⟩, hm⟩ := hg
    refine k_calli (va_runV (As := [.int a, .int b]) (rest := []) C.1 hm (cwV 2 C.ts (gl_up inv_X8_corner) rfl q1 q2 ⟨rfl, hdA_X8_corner⟩ ⟨by show rm.frames + 1 ≤ 301; omega, by show 8 + (_ + 11) + rm.locals ≤ 20040; omega⟩) (k_preV C hX hh rfl) rfl rfl hl.1 rfl (lv_room (Nat.le_of_ble_eq_true rfl)) dL_act_36 ⟨by show 0 + mc ≤ 8; omega, by show 0 + ms ≤ 64; omega⟩) hX (fun r0 f1 H locs hp hX => ?_)
    obtain ⟨hr0, hI1⟩ := hp
    refine lv_i2l (v := r0.toInt64) C.x C.b dL_act_39 rfl ?_
    refine lv_goto (tgt := 435) C.x C.b dL_act_40 (by decide) ?_
    exact k_lretX C hX hr hlocks hQ (by omega) (by omega) ⟨by rw [rvI_0 h0, hr0], hI1⟩ dL_act_435
  rcases hn.cs with ⟨hk, hg⟩ | ⟨hk, hg⟩ | ⟨hk, hg⟩
  · obtain ⟨rm, mc, ms, ⟨q1, q2, q3, q4, q5, q6⟩, hm⟩ := hg
    refine k_catX C (vx_runV (As := [.int a, .int b]) (rest := []) C.1 hm (cwV 2 C.ts (gl_up inv_X8_corner) rfl q1 q2 ⟨rfl, hdA_X8_corner⟩ ⟨by show rm.frames + 1 ≤ 301; omega, by show 8 + (_ + 11) + rm.locals ≤ 20040; omega⟩) (k_preV C hX hh rfl) rfl rfl hl.1 rfl (lv_room (Nat.le_of_ble_eq_true rfl)) dL_act_36 ⟨by show 0 + mc ≤ 8; omega, by show 0 + ms ≤ 64; omega⟩) hX [] (0, 435, 436, 96) [(0, 435, 442, 100), (0, 435, 448, 104)] htab (fun z9 hz9 => by simp at hz9) (by decide) (by decide) lkA_o inA_o (fun q9 f1 H locs hp hX => ?_)
    refine lv_astore (lv' := [(6, .ref q9), (0, .ref h), (1, .int (nI 2)), (2, .int a), (3, .int b), (4, .int x), (5, .int y)]) C.x C.b dL_act_436 hl (by decide) rfl (fun ls hl => ?_)
    refine lv_ldc2 (v := -7000001) C.x C.b C.ow (C.ts _ lkA_c98) dL_act_438 ?_
    exact k_lretX C hX hr hlocks hQ (by omega) (by omega) ⟨by rw [rvI_1 hk], hp⟩ dL_act_441
  · obtain ⟨rm, mc, ms, ⟨q1, q2, q3, q4, q5, q6⟩, hm⟩ := hg
    refine k_catX C (vx_runV (As := [.int a, .int b]) (rest := []) C.1 hm (cwV 2 C.ts (gl_up inv_X8_corner) rfl q1 q2 ⟨rfl, hdA_X8_corner⟩ ⟨by show rm.frames + 1 ≤ 301; omega, by show 8 + (_ + 11) + rm.locals ≤ 20040; omega⟩) (k_preV C hX hh rfl) rfl rfl hl.1 rfl (lv_room (Nat.le_of_ble_eq_true rfl)) dL_act_36 ⟨by show 0 + mc ≤ 8; omega, by show 0 + ms ≤ 64; omega⟩) hX [(0, 435, 436, 96)] (0, 435, 442, 100) [(0, 435, 448, 104)] htab (fun z9 hz9 => by
      simp only [List.mem_cons, List.not_mem_nil, or_false] at hz9
      rcases hz9 with rfl
      · exact ⟨by decide, "java/lang/IndexOutOfBoundsException", lkA_o, by decide +kernel⟩) (by decide) (by decide) lkA_a inA_a (fun q9 f1 H locs hp hX => ?_)
    refine lv_astore (lv' := [(6, .ref q9), (0, .ref h), (1, .int (nI 2)), (2, .int a), (3, .int b), (4, .int x), (5, .int y)]) C.x C.b dL_act_442 hl (by decide) rfl (fun ls hl => ?_)
    refine lv_ldc2 (v := -7000002) C.x C.b C.ow (C.ts _ lkA_c102) dL_act_444 ?_
    exact k_lretX C hX hr hlocks hQ (by omega) (by omega) ⟨by rw [rvI_2 hk], hp⟩ dL_act_447
  · obtain ⟨rm, mc, ms, ⟨q1, q2, q3, q4, q5, q6⟩, hm⟩ := hg
    refine k_catX C (vx_runV (As := [.int a, .int b]) (rest := []) C.1 hm (cwV 2 C.ts (gl_up inv_X8_corner) rfl q1 q2 ⟨rfl, hdA_X8_corner⟩ ⟨by show rm.frames + 1 ≤ 301; omega, by show 8 + (_ + 11) + rm.locals ≤ 20040; omega⟩) (k_preV C hX hh rfl) rfl rfl hl.1 rfl (lv_room (Nat.le_of_ble_eq_true rfl)) dL_act_36 ⟨by show 0 + mc ≤ 8; omega, by show 0 + ms ≤ 64; omega⟩) hX [(0, 435, 436, 96), (0, 435, 442, 100)] (0, 435, 448, 104) [] htab (fun z9 hz9 => by
      simp only [List.mem_cons, List.not_mem_nil, or_false] at hz9
      rcases hz9 with rfl | rfl
      · exact ⟨by decide, "java/lang/IndexOutOfBoundsException", lkA_o, by decide +kernel⟩
      · exact ⟨by decide, "java/lang/IllegalArgumentException", lkA_a, by decide +kernel⟩) (by decide) (by decide) lkA_s inA_s (fun q9 f1 H locs hp hX => ?_)
    refine lv_astore (lv' := [(6, .ref q9), (0, .ref h), (1, .int (nI 2)), (2, .int a), (3, .int b), (4, .int x), (5, .int y)]) C.x C.b dL_act_448 hl (by decide) rfl (fun ls hl => ?_)
    refine lv_ldc2 (v := -7000003) C.x C.b C.ow (C.ts _ lkA_c106) dL_act_450 ?_
    exact k_lretX C hX hr hlocks hQ (by omega) (by omega) ⟨by rw [rvI_3 hk], hp⟩ dL_act_453
theorem hdA_X8_around : yX8_around.cls ≠ "java/lang/invoke/MethodHandle" ∧ yX8_around.cls ≠ "java/lang/invoke/VarHandle" ∧ (parseMethodDescriptor yX8_around.desc).map (fun d => d.parameters.length) = some 2 := by decide +kernel
set_option maxHeartbeats 2000000 in
theorem act_3 {l : Launch} {G : kG} {B0 h : Nat} {f : kH} (hh : ∃ vs, f h = some (.inr (8, vs))) (a b x y : Int32) {R : pRI} (hc : cI l G B0 h f yX8_around wsX8_around [.int a, .int b] R) : vx_Met l yL_act wsP_act rmA (kP G B0 f [.ref h, .int (nI 3), .int a, .int b, .int x, .int y]) (kQl G B0 (fun r f1 => r = rvI R ∧ Inv G h f1 R.2.2)) (kXN G B0) 8 64 (kAb B0) := by
  obtain ⟨vs, hh⟩ := hh
  refine kMetH (cc := cL_act) (maxL := 7) (ret := (some .long)) (hh := [(0, 435, 436, 96), (0, 435, 442, 100), (0, 435, 448, 104)]) (by decide) rfl (Nat.le_of_ble_eq_true rfl) ?_
  intro p e s m args below meth c H locs Q ls C hX hl hr hlocks hQ htab
  have hl : lv_has ls 7 [(0, .ref h), (1, .int (nI 3)), (2, .int a), (3, .int b), (4, .int x), (5, .int y)] := hl
  refine lv_iload_n C.x C.b dL_act_0 rfl (lv_at hl 1 rfl) ?_
  refine lv_if_ne (tgt := 13) C.x C.b dL_act_1 (by decide) (fun _ => ?_) (fun q9 => absurd q9 (by decide))
  refine lv_iload_n C.x C.b dL_act_13 rfl (lv_at hl 1 rfl) ?_
  refine lv_iconst (v := nI 1) C.x C.b dL_act_14 (by decide) ?_
  refine lv_icmp_ne (tgt := 28) C.x C.b dL_act_15 (by decide) (fun _ => ?_) (fun q9 => absurd q9 (by decide))
  refine lv_iload_n C.x C.b dL_act_28 rfl (lv_at hl 1 rfl) ?_
  refine lv_iconst (v := nI 2) C.x C.b dL_act_29 (by decide) ?_
  refine lv_icmp_ne (tgt := 43) C.x C.b dL_act_30 (by decide) (fun _ => ?_) (fun q9 => absurd q9 (by decide))
  refine lv_iload_n C.x C.b dL_act_43 rfl (lv_at hl 1 rfl) ?_
  refine lv_iconst (v := nI 3) C.x C.b dL_act_44 (by decide) ?_
  refine lv_icmp_ne (tgt := 58) C.x C.b dL_act_45 (by decide) (fun q9 => absurd rfl q9) (fun _ => ?_)
  refine lv_aload_n C.x C.b dL_act_48 rfl (lv_at hl 0 rfl) ?_
  refine lv_iload_n C.x C.b dL_act_49 rfl (lv_at hl 2 rfl) ?_
  refine lv_iload_n C.x C.b dL_act_50 rfl (lv_at hl 3 rfl) ?_
  rcases hc with ⟨h0, hg⟩ | hn
  · obtain ⟨rm, mc, ms, ⟨q1, q2, q3, q4, q5, q6⟩, hm⟩ := hg
    refine k_calli (va_runV (As := [.int a, .int b]) (rest := []) C.1 hm (cwV 2 C.ts (gl_up inv_X8_around) rfl q1 q2 ⟨rfl, hdA_X8_around⟩ ⟨by show rm.frames + 1 ≤ 301; omega, by show 8 + (_ + 11) + rm.locals ≤ 20040; omega⟩) (k_preV C hX hh rfl) rfl rfl hl.1 rfl (lv_room (Nat.le_of_ble_eq_true rfl)) dL_act_51 ⟨by show 0 + mc ≤ 8; omega, by show 0 + ms ≤ 64; omega⟩) hX (fun r0 f1 H locs hp hX => ?_)
    obtain ⟨hr0, hI1⟩ := hp
    refine lv_i2l (v := r0.toInt64) C.x C.b dL_act_54 rfl ?_
    refine lv_goto (tgt := 435) C.x C.b dL_act_55 (by decide) ?_
    exact k_lretX C hX hr hlocks hQ (by omega) (by omega) ⟨by rw [rvI_0 h0, hr0], hI1⟩ dL_act_435
  rcases hn.cs with ⟨hk, hg⟩ | ⟨hk, hg⟩ | ⟨hk, hg⟩
  · obtain ⟨rm, mc, ms, ⟨q1, q2, q3, q4, q5, q6⟩, hm⟩ := hg
    refine k_catX C (vx_runV (As := [.int a, .int b]) (rest := []) C.1 hm (cwV 2 C.ts (gl_up inv_X8_around) rfl q1 q2 ⟨rfl, hdA_X8_around⟩ ⟨by show rm.frames + 1 ≤ 301; omega, by show 8 + (_ + 11) + rm.locals ≤ 20040; omega⟩) (k_preV C hX hh rfl) rfl rfl hl.1 rfl (lv_room (Nat.le_of_ble_eq_true rfl)) dL_act_51 ⟨by show 0 + mc ≤ 8; omega, by show 0 + ms ≤ 64; omega⟩) hX [] (0, 435, 436, 96) [(0, 435, 442, 100), (0, 435, 448, 104)] htab (fun z9 hz9 => by simp at hz9) (by decide) (by decide) lkA_o inA_o (fun q9 f1 H locs hp hX => ?_)
    refine lv_astore (lv' := [(6, .ref q9), (0, .ref h), (1, .int (nI 3)), (2, .int a), (3, .int b), (4, .int x), (5, .int y)]) C.x C.b dL_act_436 hl (by decide) rfl (fun ls hl => ?_)
    refine lv_ldc2 (v := -7000001) C.x C.b C.ow (C.ts _ lkA_c98) dL_act_438 ?_
    exact k_lretX C hX hr hlocks hQ (by omega) (by omega) ⟨by rw [rvI_1 hk], hp⟩ dL_act_441
  · obtain ⟨rm, mc, ms, ⟨q1, q2, q3, q4, q5, q6⟩, hm⟩ := hg
    refine k_catX C (vx_runV (As := [.int a, .int b]) (rest := []) C.1 hm (cwV 2 C.ts (gl_up inv_X8_around) rfl q1 q2 ⟨rfl, hdA_X8_around⟩ ⟨by show rm.frames + 1 ≤ 301; omega, by show 8 + (_ + 11) + rm.locals ≤ 20040; omega⟩) (k_preV C hX hh rfl) rfl rfl hl.1 rfl (lv_room (Nat.le_of_ble_eq_true rfl)) dL_act_51 ⟨by show 0 + mc ≤ 8; omega, by show 0 + ms ≤ 64; omega⟩) hX [(0, 435, 436, 96)] (0, 435, 442, 100) [(0, 435, 448, 104)] htab (fun z9 hz9 => by
      simp only [List.mem_cons, List.not_mem_nil, or_false] at hz9
      rcases hz9 with rfl
      · exact ⟨by decide, "java/lang/IndexOutOfBoundsException", lkA_o, by decide +kernel⟩) (by decide) (by decide) lkA_a inA_a (fun q9 f1 H locs hp hX => ?_)
    refine lv_astore (lv' := [(6, .ref q9), (0, .ref h), (1, .int (nI 3)), (2, .int a), (3, .int b), (4, .int x), (5, .int y)]) C.x C.b dL_act_442 hl (by decide) rfl (fun ls hl => ?_)
    refine lv_ldc2 (v := -7000002) C.x C.b C.ow (C.ts _ lkA_c102) dL_act_444 ?_
    exact k_lretX C hX hr hlocks hQ (by omega) (by omega) ⟨by rw [rvI_2 hk], hp⟩ dL_act_447
  · obtain ⟨rm, mc, ms, ⟨q1, q2, q3, q4, q5, q6⟩, hm⟩ := hg
    refine k_catX C (vx_runV (As := [.int a, .int b]) (rest := []) C.1 hm (cwV 2 C.ts (gl_up inv_X8_around) rfl q1 q2 ⟨rfl, hdA_X8_around⟩ ⟨by show rm.frames + 1 ≤ 301; omega, by show 8 + (_ + 11) + rm.locals ≤ 20040; omega⟩) (k_preV C hX hh rfl) rfl rfl hl.1 rfl (lv_room (Nat.le_of_ble_eq_true rfl)) dL_act_51 ⟨by show 0 + mc ≤ 8; omega, by show 0 + ms ≤ 64; omega⟩) hX [(0, 435, 436, 96), (0, 435, 442, 100)] (0, 435, 448, 104) [] htab (fun z9 hz9 => by
      simp only [List.mem_cons, List.not_mem_nil, or_false] at hz9
      rcases hz9 with rfl | rfl
      · exact ⟨by decide, "java/lang/IndexOutOfBoundsException", lkA_o, by decide +kernel⟩
      · exact ⟨by decide, "java/lang/IllegalArgumentException", lkA_a, by decide +kernel⟩) (by decide) (by decide) lkA_s inA_s (fun q9 f1 H locs hp hX => ?_)
    refine lv_astore (lv' := [(6, .ref q9), (0, .ref h), (1, .int (nI 3)), (2, .int a), (3, .int b), (4, .int x), (5, .int y)]) C.x C.b dL_act_448 hl (by decide) rfl (fun ls hl => ?_)
    refine lv_ldc2 (v := -7000003) C.x C.b C.ow (C.ts _ lkA_c106) dL_act_450 ?_
    exact k_lretX C hX hr hlocks hQ (by omega) (by omega) ⟨by rw [rvI_3 hk], hp⟩ dL_act_453
theorem hdA_X8_net : yX8_net.cls ≠ "java/lang/invoke/MethodHandle" ∧ yX8_net.cls ≠ "java/lang/invoke/VarHandle" ∧ (parseMethodDescriptor yX8_net.desc).map (fun d => d.parameters.length) = some 1 := by decide +kernel
set_option maxHeartbeats 2000000 in
theorem act_4 {l : Launch} {G : kG} {B0 h : Nat} {f : kH} (hh : ∃ vs, f h = some (.inr (8, vs))) (a b x y : Int32) {R : pRI} (hc : cI l G B0 h f yX8_net wsX8_net [.int a] R) : vx_Met l yL_act wsP_act rmA (kP G B0 f [.ref h, .int (nI 4), .int a, .int b, .int x, .int y]) (kQl G B0 (fun r f1 => r = rvI R ∧ Inv G h f1 R.2.2)) (kXN G B0) 8 64 (kAb B0) := by
  obtain ⟨vs, hh⟩ := hh
  refine kMetH (cc := cL_act) (maxL := 7) (ret := (some .long)) (hh := [(0, 435, 436, 96), (0, 435, 442, 100), (0, 435, 448, 104)]) (by decide) rfl (Nat.le_of_ble_eq_true rfl) ?_
  intro p e s m args below meth c H locs Q ls C hX hl hr hlocks hQ htab
  have hl : lv_has ls 7 [(0, .ref h), (1, .int (nI 4)), (2, .int a), (3, .int b), (4, .int x), (5, .int y)] := hl
  refine lv_iload_n C.x C.b dL_act_0 rfl (lv_at hl 1 rfl) ?_
  refine lv_if_ne (tgt := 13) C.x C.b dL_act_1 (by decide) (fun _ => ?_) (fun q9 => absurd q9 (by decide))
  refine lv_iload_n C.x C.b dL_act_13 rfl (lv_at hl 1 rfl) ?_
  refine lv_iconst (v := nI 1) C.x C.b dL_act_14 (by decide) ?_
  refine lv_icmp_ne (tgt := 28) C.x C.b dL_act_15 (by decide) (fun _ => ?_) (fun q9 => absurd q9 (by decide))
  refine lv_iload_n C.x C.b dL_act_28 rfl (lv_at hl 1 rfl) ?_
  refine lv_iconst (v := nI 2) C.x C.b dL_act_29 (by decide) ?_
  refine lv_icmp_ne (tgt := 43) C.x C.b dL_act_30 (by decide) (fun _ => ?_) (fun q9 => absurd q9 (by decide))
  refine lv_iload_n C.x C.b dL_act_43 rfl (lv_at hl 1 rfl) ?_
  refine lv_iconst (v := nI 3) C.x C.b dL_act_44 (by decide) ?_
  refine lv_icmp_ne (tgt := 58) C.x C.b dL_act_45 (by decide) (fun _ => ?_) (fun q9 => absurd q9 (by decide))
  refine lv_iload_n C.x C.b dL_act_58 rfl (lv_at hl 1 rfl) ?_
  refine lv_iconst (v := nI 4) C.x C.b dL_act_59 (by decide) ?_
  refine lv_icmp_ne (tgt := 72) C.x C.b dL_act_60 (by decide) (fun q9 => absurd rfl q9) (fun _ => ?_)
  refine lv_aload_n C.x C.b dL_act_63 rfl (lv_at hl 0 rfl) ?_
  refine lv_iload_n C.x C.b dL_act_64 rfl (lv_at hl 2 rfl) ?_
  rcases hc with ⟨h0, hg⟩ | hn
  · obtain ⟨rm, mc, ms, ⟨q1, q2, q3, q4, q5, q6⟩, hm⟩ := hg
    refine k_calli (va_runV (As := [.int a]) (rest := []) C.1 hm (cwV 1 C.ts (gl_up inv_X8_net) rfl q1 q2 ⟨rfl, hdA_X8_net⟩ ⟨by show rm.frames + 1 ≤ 301; omega, by show 8 + (_ + 11) + rm.locals ≤ 20040; omega⟩) (k_preV C hX hh rfl) rfl rfl hl.1 rfl (lv_room (Nat.le_of_ble_eq_true rfl)) dL_act_65 ⟨by show 0 + mc ≤ 8; omega, by show 0 + ms ≤ 64; omega⟩) hX (fun r0 f1 H locs hp hX => ?_)
    obtain ⟨hr0, hI1⟩ := hp
    refine lv_i2l (v := r0.toInt64) C.x C.b dL_act_68 rfl ?_
    refine lv_goto (tgt := 435) C.x C.b dL_act_69 (by decide) ?_
    exact k_lretX C hX hr hlocks hQ (by omega) (by omega) ⟨by rw [rvI_0 h0, hr0], hI1⟩ dL_act_435
  rcases hn.cs with ⟨hk, hg⟩ | ⟨hk, hg⟩ | ⟨hk, hg⟩
  · obtain ⟨rm, mc, ms, ⟨q1, q2, q3, q4, q5, q6⟩, hm⟩ := hg
    refine k_catX C (vx_runV (As := [.int a]) (rest := []) C.1 hm (cwV 1 C.ts (gl_up inv_X8_net) rfl q1 q2 ⟨rfl, hdA_X8_net⟩ ⟨by show rm.frames + 1 ≤ 301; omega, by show 8 + (_ + 11) + rm.locals ≤ 20040; omega⟩) (k_preV C hX hh rfl) rfl rfl hl.1 rfl (lv_room (Nat.le_of_ble_eq_true rfl)) dL_act_65 ⟨by show 0 + mc ≤ 8; omega, by show 0 + ms ≤ 64; omega⟩) hX [] (0, 435, 436, 96) [(0, 435, 442, 100), (0, 435, 448, 104)] htab (fun z9 hz9 => by simp at hz9) (by decide) (by decide) lkA_o inA_o (fun q9 f1 H locs hp hX => ?_)
    refine lv_astore (lv' := [(6, .ref q9), (0, .ref h), (1, .int (nI 4)), (2, .int a), (3, .int b), (4, .int x), (5, .int y)]) C.x C.b dL_act_436 hl (by decide) rfl (fun ls hl => ?_)
    refine lv_ldc2 (v := -7000001) C.x C.b C.ow (C.ts _ lkA_c98) dL_act_438 ?_
    exact k_lretX C hX hr hlocks hQ (by omega) (by omega) ⟨by rw [rvI_1 hk], hp⟩ dL_act_441
  · obtain ⟨rm, mc, ms, ⟨q1, q2, q3, q4, q5, q6⟩, hm⟩ := hg
    refine k_catX C (vx_runV (As := [.int a]) (rest := []) C.1 hm (cwV 1 C.ts (gl_up inv_X8_net) rfl q1 q2 ⟨rfl, hdA_X8_net⟩ ⟨by show rm.frames + 1 ≤ 301; omega, by show 8 + (_ + 11) + rm.locals ≤ 20040; omega⟩) (k_preV C hX hh rfl) rfl rfl hl.1 rfl (lv_room (Nat.le_of_ble_eq_true rfl)) dL_act_65 ⟨by show 0 + mc ≤ 8; omega, by show 0 + ms ≤ 64; omega⟩) hX [(0, 435, 436, 96)] (0, 435, 442, 100) [(0, 435, 448, 104)] htab (fun z9 hz9 => by
      simp only [List.mem_cons, List.not_mem_nil, or_false] at hz9
      rcases hz9 with rfl
      · exact ⟨by decide, "java/lang/IndexOutOfBoundsException", lkA_o, by decide +kernel⟩) (by decide) (by decide) lkA_a inA_a (fun q9 f1 H locs hp hX => ?_)
    refine lv_astore (lv' := [(6, .ref q9), (0, .ref h), (1, .int (nI 4)), (2, .int a), (3, .int b), (4, .int x), (5, .int y)]) C.x C.b dL_act_442 hl (by decide) rfl (fun ls hl => ?_)
    refine lv_ldc2 (v := -7000002) C.x C.b C.ow (C.ts _ lkA_c102) dL_act_444 ?_
    exact k_lretX C hX hr hlocks hQ (by omega) (by omega) ⟨by rw [rvI_2 hk], hp⟩ dL_act_447
  · obtain ⟨rm, mc, ms, ⟨q1, q2, q3, q4, q5, q6⟩, hm⟩ := hg
    refine k_catX C (vx_runV (As := [.int a]) (rest := []) C.1 hm (cwV 1 C.ts (gl_up inv_X8_net) rfl q1 q2 ⟨rfl, hdA_X8_net⟩ ⟨by show rm.frames + 1 ≤ 301; omega, by show 8 + (_ + 11) + rm.locals ≤ 20040; omega⟩) (k_preV C hX hh rfl) rfl rfl hl.1 rfl (lv_room (Nat.le_of_ble_eq_true rfl)) dL_act_65 ⟨by show 0 + mc ≤ 8; omega, by show 0 + ms ≤ 64; omega⟩) hX [(0, 435, 436, 96), (0, 435, 442, 100)] (0, 435, 448, 104) [] htab (fun z9 hz9 => by
      simp only [List.mem_cons, List.not_mem_nil, or_false] at hz9
      rcases hz9 with rfl | rfl
      · exact ⟨by decide, "java/lang/IndexOutOfBoundsException", lkA_o, by decide +kernel⟩
      · exact ⟨by decide, "java/lang/IllegalArgumentException", lkA_a, by decide +kernel⟩) (by decide) (by decide) lkA_s inA_s (fun q9 f1 H locs hp hX => ?_)
    refine lv_astore (lv' := [(6, .ref q9), (0, .ref h), (1, .int (nI 4)), (2, .int a), (3, .int b), (4, .int x), (5, .int y)]) C.x C.b dL_act_448 hl (by decide) rfl (fun ls hl => ?_)
    refine lv_ldc2 (v := -7000003) C.x C.b C.ow (C.ts _ lkA_c106) dL_act_450 ?_
    exact k_lretX C hX hr hlocks hQ (by omega) (by omega) ⟨by rw [rvI_3 hk], hp⟩ dL_act_453
theorem hdA_X8_disk : yX8_disk.cls ≠ "java/lang/invoke/MethodHandle" ∧ yX8_disk.cls ≠ "java/lang/invoke/VarHandle" ∧ (parseMethodDescriptor yX8_disk.desc).map (fun d => d.parameters.length) = some 3 := by decide +kernel
set_option maxHeartbeats 2000000 in
theorem act_5 {l : Launch} {G : kG} {B0 h : Nat} {f : kH} (hh : ∃ vs, f h = some (.inr (8, vs))) (a b x y : Int32) {R : pRI} (hc : cI l G B0 h f yX8_disk wsX8_disk [.int a, .int b, .int x] R) : vx_Met l yL_act wsP_act rmA (kP G B0 f [.ref h, .int (nI 5), .int a, .int b, .int x, .int y]) (kQl G B0 (fun r f1 => r = rvI R ∧ Inv G h f1 R.2.2)) (kXN G B0) 8 64 (kAb B0) := by
  obtain ⟨vs, hh⟩ := hh
  refine kMetH (cc := cL_act) (maxL := 7) (ret := (some .long)) (hh := [(0, 435, 436, 96), (0, 435, 442, 100), (0, 435, 448, 104)]) (by decide) rfl (Nat.le_of_ble_eq_true rfl) ?_
  intro p e s m args below meth c H locs Q ls C hX hl hr hlocks hQ htab
  have hl : lv_has ls 7 [(0, .ref h), (1, .int (nI 5)), (2, .int a), (3, .int b), (4, .int x), (5, .int y)] := hl
  refine lv_iload_n C.x C.b dL_act_0 rfl (lv_at hl 1 rfl) ?_
  refine lv_if_ne (tgt := 13) C.x C.b dL_act_1 (by decide) (fun _ => ?_) (fun q9 => absurd q9 (by decide))
  refine lv_iload_n C.x C.b dL_act_13 rfl (lv_at hl 1 rfl) ?_
  refine lv_iconst (v := nI 1) C.x C.b dL_act_14 (by decide) ?_
  refine lv_icmp_ne (tgt := 28) C.x C.b dL_act_15 (by decide) (fun _ => ?_) (fun q9 => absurd q9 (by decide))
  refine lv_iload_n C.x C.b dL_act_28 rfl (lv_at hl 1 rfl) ?_
  refine lv_iconst (v := nI 2) C.x C.b dL_act_29 (by decide) ?_
  refine lv_icmp_ne (tgt := 43) C.x C.b dL_act_30 (by decide) (fun _ => ?_) (fun q9 => absurd q9 (by decide))
  refine lv_iload_n C.x C.b dL_act_43 rfl (lv_at hl 1 rfl) ?_
  refine lv_iconst (v := nI 3) C.x C.b dL_act_44 (by decide) ?_
  refine lv_icmp_ne (tgt := 58) C.x C.b dL_act_45 (by decide) (fun _ => ?_) (fun q9 => absurd q9 (by decide))
  refine lv_iload_n C.x C.b dL_act_58 rfl (lv_at hl 1 rfl) ?_
  refine lv_iconst (v := nI 4) C.x C.b dL_act_59 (by decide) ?_
  refine lv_icmp_ne (tgt := 72) C.x C.b dL_act_60 (by decide) (fun _ => ?_) (fun q9 => absurd q9 (by decide))
  refine lv_iload_n C.x C.b dL_act_72 rfl (lv_at hl 1 rfl) ?_
  refine lv_iconst (v := nI 5) C.x C.b dL_act_73 (by decide) ?_
  refine lv_icmp_ne (tgt := 89) C.x C.b dL_act_74 (by decide) (fun q9 => absurd rfl q9) (fun _ => ?_)
  refine lv_aload_n C.x C.b dL_act_77 rfl (lv_at hl 0 rfl) ?_
  refine lv_iload_n C.x C.b dL_act_78 rfl (lv_at hl 2 rfl) ?_
  refine lv_iload_n C.x C.b dL_act_79 rfl (lv_at hl 3 rfl) ?_
  refine lv_iload C.x C.b dL_act_80 (lv_at hl 4 rfl) ?_
  rcases hc with ⟨h0, hg⟩ | hn
  · obtain ⟨rm, mc, ms, ⟨q1, q2, q3, q4, q5, q6⟩, hm⟩ := hg
    refine k_calli (va_runV (As := [.int a, .int b, .int x]) (rest := []) C.1 hm (cwV 3 C.ts (gl_up inv_X8_disk) rfl q1 q2 ⟨rfl, hdA_X8_disk⟩ ⟨by show rm.frames + 1 ≤ 301; omega, by show 8 + (_ + 11) + rm.locals ≤ 20040; omega⟩) (k_preV C hX hh rfl) rfl rfl hl.1 rfl (lv_room (Nat.le_of_ble_eq_true rfl)) dL_act_82 ⟨by show 0 + mc ≤ 8; omega, by show 0 + ms ≤ 64; omega⟩) hX (fun r0 f1 H locs hp hX => ?_)
    obtain ⟨hr0, hI1⟩ := hp
    refine lv_i2l (v := r0.toInt64) C.x C.b dL_act_85 rfl ?_
    refine lv_goto (tgt := 435) C.x C.b dL_act_86 (by decide) ?_
    exact k_lretX C hX hr hlocks hQ (by omega) (by omega) ⟨by rw [rvI_0 h0, hr0], hI1⟩ dL_act_435
  rcases hn.cs with ⟨hk, hg⟩ | ⟨hk, hg⟩ | ⟨hk, hg⟩
  · obtain ⟨rm, mc, ms, ⟨q1, q2, q3, q4, q5, q6⟩, hm⟩ := hg
    refine k_catX C (vx_runV (As := [.int a, .int b, .int x]) (rest := []) C.1 hm (cwV 3 C.ts (gl_up inv_X8_disk) rfl q1 q2 ⟨rfl, hdA_X8_disk⟩ ⟨by show rm.frames + 1 ≤ 301; omega, by show 8 + (_ + 11) + rm.locals ≤ 20040; omega⟩) (k_preV C hX hh rfl) rfl rfl hl.1 rfl (lv_room (Nat.le_of_ble_eq_true rfl)) dL_act_82 ⟨by show 0 + mc ≤ 8; omega, by show 0 + ms ≤ 64; omega⟩) hX [] (0, 435, 436, 96) [(0, 435, 442, 100), (0, 435, 448, 104)] htab (fun z9 hz9 => by simp at hz9) (by decide) (by decide) lkA_o inA_o (fun q9 f1 H locs hp hX => ?_)
    refine lv_astore (lv' := [(6, .ref q9), (0, .ref h), (1, .int (nI 5)), (2, .int a), (3, .int b), (4, .int x), (5, .int y)]) C.x C.b dL_act_436 hl (by decide) rfl (fun ls hl => ?_)
    refine lv_ldc2 (v := -7000001) C.x C.b C.ow (C.ts _ lkA_c98) dL_act_438 ?_
    exact k_lretX C hX hr hlocks hQ (by omega) (by omega) ⟨by rw [rvI_1 hk], hp⟩ dL_act_441
  · obtain ⟨rm, mc, ms, ⟨q1, q2, q3, q4, q5, q6⟩, hm⟩ := hg
    refine k_catX C (vx_runV (As := [.int a, .int b, .int x]) (rest := []) C.1 hm (cwV 3 C.ts (gl_up inv_X8_disk) rfl q1 q2 ⟨rfl, hdA_X8_disk⟩ ⟨by show rm.frames + 1 ≤ 301; omega, by show 8 + (_ + 11) + rm.locals ≤ 20040; omega⟩) (k_preV C hX hh rfl) rfl rfl hl.1 rfl (lv_room (Nat.le_of_ble_eq_true rfl)) dL_act_82 ⟨by show 0 + mc ≤ 8; omega, by show 0 + ms ≤ 64; omega⟩) hX [(0, 435, 436, 96)] (0, 435, 442, 100) [(0, 435, 448, 104)] htab (fun z9 hz9 => by
      simp only [List.mem_cons, List.not_mem_nil, or_false] at hz9
      rcases hz9 with rfl
      · exact ⟨by decide, "java/lang/IndexOutOfBoundsException", lkA_o, by decide +kernel⟩) (by decide) (by decide) lkA_a inA_a (fun q9 f1 H locs hp hX => ?_)
    refine lv_astore (lv' := [(6, .ref q9), (0, .ref h), (1, .int (nI 5)), (2, .int a), (3, .int b), (4, .int x), (5, .int y)]) C.x C.b dL_act_442 hl (by decide) rfl (fun ls hl => ?_)
    refine lv_ldc2 (v := -7000002) C.x C.b C.ow (C.ts _ lkA_c102) dL_act_444 ?_
    exact k_lretX C hX hr hlocks hQ (by omega) (by omega) ⟨by rw [rvI_2 hk], hp⟩ dL_act_447
  · obtain ⟨rm, mc, ms, ⟨q1, q2, q3, q4, q5, q6⟩, hm⟩ := hg
    refine k_catX C (vx_runV (As := [.int a, .int b, .int x]) (rest := []) C.1 hm (cwV 3 C.ts (gl_up inv_X8_disk) rfl q1 q2 ⟨rfl, hdA_X8_disk⟩ ⟨by show rm.frames + 1 ≤ 301; omega, by show 8 + (_ + 11) + rm.locals ≤ 20040; omega⟩) (k_preV C hX hh rfl) rfl rfl hl.1 rfl (lv_room (Nat.le_of_ble_eq_true rfl)) dL_act_82 ⟨by show 0 + mc ≤ 8; omega, by show 0 + ms ≤ 64; omega⟩) hX [(0, 435, 436, 96), (0, 435, 442, 100)] (0, 435, 448, 104) [] htab (fun z9 hz9 => by
      simp only [List.mem_cons, List.not_mem_nil, or_false] at hz9
      rcases hz9 with rfl | rfl
      · exact ⟨by decide, "java/lang/IndexOutOfBoundsException", lkA_o, by decide +kernel⟩
      · exact ⟨by decide, "java/lang/IllegalArgumentException", lkA_a, by decide +kernel⟩) (by decide) (by decide) lkA_s inA_s (fun q9 f1 H locs hp hX => ?_)
    refine lv_astore (lv' := [(6, .ref q9), (0, .ref h), (1, .int (nI 5)), (2, .int a), (3, .int b), (4, .int x), (5, .int y)]) C.x C.b dL_act_448 hl (by decide) rfl (fun ls hl => ?_)
    refine lv_ldc2 (v := -7000003) C.x C.b C.ow (C.ts _ lkA_c106) dL_act_450 ?_
    exact k_lretX C hX hr hlocks hQ (by omega) (by omega) ⟨by rw [rvI_3 hk], hp⟩ dL_act_453
theorem hdA_X8_move : yX8_move.cls ≠ "java/lang/invoke/MethodHandle" ∧ yX8_move.cls ≠ "java/lang/invoke/VarHandle" ∧ (parseMethodDescriptor yX8_move.desc).map (fun d => d.parameters.length) = some 4 := by decide +kernel
set_option maxHeartbeats 2000000 in
theorem act_6 {l : Launch} {G : kG} {B0 h : Nat} {f : kH} (hh : ∃ vs, f h = some (.inr (8, vs))) (a b x y : Int32) {R : pRI} (hc : cI l G B0 h f yX8_move wsX8_move [.int a, .int b, .int x, .int y] R) : vx_Met l yL_act wsP_act rmA (kP G B0 f [.ref h, .int (nI 6), .int a, .int b, .int x, .int y]) (kQl G B0 (fun r f1 => r = rvI R ∧ Inv G h f1 R.2.2)) (kXN G B0) 8 64 (kAb B0) := by
  obtain ⟨vs, hh⟩ := hh
  refine kMetH (cc := cL_act) (maxL := 7) (ret := (some .long)) (hh := [(0, 435, 436, 96), (0, 435, 442, 100), (0, 435, 448, 104)]) (by decide) rfl (Nat.le_of_ble_eq_true rfl) ?_
  intro p e s m args below meth c H locs Q ls C hX hl hr hlocks hQ htab
  have hl : lv_has ls 7 [(0, .ref h), (1, .int (nI 6)), (2, .int a), (3, .int b), (4, .int x), (5, .int y)] := hl
  refine lv_iload_n C.x C.b dL_act_0 rfl (lv_at hl 1 rfl) ?_
  refine lv_if_ne (tgt := 13) C.x C.b dL_act_1 (by decide) (fun _ => ?_) (fun q9 => absurd q9 (by decide))
  refine lv_iload_n C.x C.b dL_act_13 rfl (lv_at hl 1 rfl) ?_
  refine lv_iconst (v := nI 1) C.x C.b dL_act_14 (by decide) ?_
  refine lv_icmp_ne (tgt := 28) C.x C.b dL_act_15 (by decide) (fun _ => ?_) (fun q9 => absurd q9 (by decide))
  refine lv_iload_n C.x C.b dL_act_28 rfl (lv_at hl 1 rfl) ?_
  refine lv_iconst (v := nI 2) C.x C.b dL_act_29 (by decide) ?_
  refine lv_icmp_ne (tgt := 43) C.x C.b dL_act_30 (by decide) (fun _ => ?_) (fun q9 => absurd q9 (by decide))
  refine lv_iload_n C.x C.b dL_act_43 rfl (lv_at hl 1 rfl) ?_
  refine lv_iconst (v := nI 3) C.x C.b dL_act_44 (by decide) ?_
  refine lv_icmp_ne (tgt := 58) C.x C.b dL_act_45 (by decide) (fun _ => ?_) (fun q9 => absurd q9 (by decide))
  refine lv_iload_n C.x C.b dL_act_58 rfl (lv_at hl 1 rfl) ?_
  refine lv_iconst (v := nI 4) C.x C.b dL_act_59 (by decide) ?_
  refine lv_icmp_ne (tgt := 72) C.x C.b dL_act_60 (by decide) (fun _ => ?_) (fun q9 => absurd q9 (by decide))
  refine lv_iload_n C.x C.b dL_act_72 rfl (lv_at hl 1 rfl) ?_
  refine lv_iconst (v := nI 5) C.x C.b dL_act_73 (by decide) ?_
  refine lv_icmp_ne (tgt := 89) C.x C.b dL_act_74 (by decide) (fun _ => ?_) (fun q9 => absurd q9 (by decide))
  refine lv_iload_n C.x C.b dL_act_89 rfl (lv_at hl 1 rfl) ?_
  refine lv_bipush (v := nI 6) C.x C.b dL_act_90 (by decide) ?_
  refine lv_icmp_ne (tgt := 109) C.x C.b dL_act_92 (by decide) (fun q9 => absurd rfl q9) (fun _ => ?_)
  refine lv_aload_n C.x C.b dL_act_95 rfl (lv_at hl 0 rfl) ?_
  refine lv_iload_n C.x C.b dL_act_96 rfl (lv_at hl 2 rfl) ?_
  refine lv_iload_n C.x C.b dL_act_97 rfl (lv_at hl 3 rfl) ?_
  refine lv_iload C.x C.b dL_act_98 (lv_at hl 4 rfl) ?_
  refine lv_iload C.x C.b dL_act_100 (lv_at hl 5 rfl) ?_
  rcases hc with ⟨h0, hg⟩ | hn
  · obtain ⟨rm, mc, ms, ⟨q1, q2, q3, q4, q5, q6⟩, hm⟩ := hg
    refine k_calli (va_runV (As := [.int a, .int b, .int x, .int y]) (rest := []) C.1 hm (cwV 4 C.ts (gl_up inv_X8_move) rfl q1 q2 ⟨rfl, hdA_X8_move⟩ ⟨by show rm.frames + 1 ≤ 301; omega, by show 8 + (_ + 11) + rm.locals ≤ 20040; omega⟩) (k_preV C hX hh rfl) rfl rfl hl.1 rfl (lv_room (Nat.le_of_ble_eq_true rfl)) dL_act_102 ⟨by show 0 + mc ≤ 8; omega, by show 0 + ms ≤ 64; omega⟩) hX (fun r0 f1 H locs hp hX => ?_)
    obtain ⟨hr0, hI1⟩ := hp
    refine lv_i2l (v := r0.toInt64) C.x C.b dL_act_105 rfl ?_
    refine lv_goto (tgt := 435) C.x C.b dL_act_106 (by decide) ?_
    exact k_lretX C hX hr hlocks hQ (by omega) (by omega) ⟨by rw [rvI_0 h0, hr0], hI1⟩ dL_act_435
  rcases hn.cs with ⟨hk, hg⟩ | ⟨hk, hg⟩ | ⟨hk, hg⟩
  · obtain ⟨rm, mc, ms, ⟨q1, q2, q3, q4, q5, q6⟩, hm⟩ := hg
    refine k_catX C (vx_runV (As := [.int a, .int b, .int x, .int y]) (rest := []) C.1 hm (cwV 4 C.ts (gl_up inv_X8_move) rfl q1 q2 ⟨rfl, hdA_X8_move⟩ ⟨by show rm.frames + 1 ≤ 301; omega, by show 8 + (_ + 11) + rm.locals ≤ 20040; omega⟩) (k_preV C hX hh rfl) rfl rfl hl.1 rfl (lv_room (Nat.le_of_ble_eq_true rfl)) dL_act_102 ⟨by show 0 + mc ≤ 8; omega, by show 0 + ms ≤ 64; omega⟩) hX [] (0, 435, 436, 96) [(0, 435, 442, 100), (0, 435, 448, 104)] htab (fun z9 hz9 => by simp at hz9) (by decide) (by decide) lkA_o inA_o (fun q9 f1 H locs hp hX => ?_)
    refine lv_astore (lv' := [(6, .ref q9), (0, .ref h), (1, .int (nI 6)), (2, .int a), (3, .int b), (4, .int x), (5, .int y)]) C.x C.b dL_act_436 hl (by decide) rfl (fun ls hl => ?_)
    refine lv_ldc2 (v := -7000001) C.x C.b C.ow (C.ts _ lkA_c98) dL_act_438 ?_
    exact k_lretX C hX hr hlocks hQ (by omega) (by omega) ⟨by rw [rvI_1 hk], hp⟩ dL_act_441
  · obtain ⟨rm, mc, ms, ⟨q1, q2, q3, q4, q5, q6⟩, hm⟩ := hg
    refine k_catX C (vx_runV (As := [.int a, .int b, .int x, .int y]) (rest := []) C.1 hm (cwV 4 C.ts (gl_up inv_X8_move) rfl q1 q2 ⟨rfl, hdA_X8_move⟩ ⟨by show rm.frames + 1 ≤ 301; omega, by show 8 + (_ + 11) + rm.locals ≤ 20040; omega⟩) (k_preV C hX hh rfl) rfl rfl hl.1 rfl (lv_room (Nat.le_of_ble_eq_true rfl)) dL_act_102 ⟨by show 0 + mc ≤ 8; omega, by show 0 + ms ≤ 64; omega⟩) hX [(0, 435, 436, 96)] (0, 435, 442, 100) [(0, 435, 448, 104)] htab (fun z9 hz9 => by
      simp only [List.mem_cons, List.not_mem_nil, or_false] at hz9
      rcases hz9 with rfl
      · exact ⟨by decide, "java/lang/IndexOutOfBoundsException", lkA_o, by decide +kernel⟩) (by decide) (by decide) lkA_a inA_a (fun q9 f1 H locs hp hX => ?_)
    refine lv_astore (lv' := [(6, .ref q9), (0, .ref h), (1, .int (nI 6)), (2, .int a), (3, .int b), (4, .int x), (5, .int y)]) C.x C.b dL_act_442 hl (by decide) rfl (fun ls hl => ?_)
    refine lv_ldc2 (v := -7000002) C.x C.b C.ow (C.ts _ lkA_c102) dL_act_444 ?_
    exact k_lretX C hX hr hlocks hQ (by omega) (by omega) ⟨by rw [rvI_2 hk], hp⟩ dL_act_447
  · obtain ⟨rm, mc, ms, ⟨q1, q2, q3, q4, q5, q6⟩, hm⟩ := hg
    refine k_catX C (vx_runV (As := [.int a, .int b, .int x, .int y]) (rest := []) C.1 hm (cwV 4 C.ts (gl_up inv_X8_move) rfl q1 q2 ⟨rfl, hdA_X8_move⟩ ⟨by show rm.frames + 1 ≤ 301; omega, by show 8 + (_ + 11) + rm.locals ≤ 20040; omega⟩) (k_preV C hX hh rfl) rfl rfl hl.1 rfl (lv_room (Nat.le_of_ble_eq_true rfl)) dL_act_102 ⟨by show 0 + mc ≤ 8; omega, by show 0 + ms ≤ 64; omega⟩) hX [(0, 435, 436, 96), (0, 435, 442, 100)] (0, 435, 448, 104) [] htab (fun z9 hz9 => by
      simp only [List.mem_cons, List.not_mem_nil, or_false] at hz9
      rcases hz9 with rfl | rfl
      · exact ⟨by decide, "java/lang/IndexOutOfBoundsException", lkA_o, by decide +kernel⟩
      · exact ⟨by decide, "java/lang/IllegalArgumentException", lkA_a, by decide +kernel⟩) (by decide) (by decide) lkA_s inA_s (fun q9 f1 H locs hp hX => ?_)
    refine lv_astore (lv' := [(6, .ref q9), (0, .ref h), (1, .int (nI 6)), (2, .int a), (3, .int b), (4, .int x), (5, .int y)]) C.x C.b dL_act_448 hl (by decide) rfl (fun ls hl => ?_)
    refine lv_ldc2 (v := -7000003) C.x C.b C.ow (C.ts _ lkA_c106) dL_act_450 ?_
    exact k_lretX C hX hr hlocks hQ (by omega) (by omega) ⟨by rw [rvI_3 hk], hp⟩ dL_act_453
theorem hdA_X8_lie : yX8_lie.cls ≠ "java/lang/invoke/MethodHandle" ∧ yX8_lie.cls ≠ "java/lang/invoke/VarHandle" ∧ (parseMethodDescriptor yX8_lie.desc).map (fun d => d.parameters.length) = some 2 := by decide +kernel
set_option maxHeartbeats 2000000 in
theorem act_7 {l : Launch} {G : kG} {B0 h : Nat} {f : kH} (hh : ∃ vs, f h = some (.inr (8, vs))) (a b x y : Int32) {R : pRI} (hc : cI l G B0 h f yX8_lie wsX8_lie [.int a, .int b] R) : vx_Met l yL_act wsP_act rmA (kP G B0 f [.ref h, .int (nI 7), .int a, .int b, .int x, .int y]) (kQl G B0 (fun r f1 => r = rvI R ∧ Inv G h f1 R.2.2)) (kXN G B0) 8 64 (kAb B0) := by
  obtain ⟨vs, hh⟩ := hh
  refine kMetH (cc := cL_act) (maxL := 7) (ret := (some .long)) (hh := [(0, 435, 436, 96), (0, 435, 442, 100), (0, 435, 448, 104)]) (by decide) rfl (Nat.le_of_ble_eq_true rfl) ?_
  intro p e s m args below meth c H locs Q ls C hX hl hr hlocks hQ htab
  have hl : lv_has ls 7 [(0, .ref h), (1, .int (nI 7)), (2, .int a), (3, .int b), (4, .int x), (5, .int y)] := hl
  refine lv_iload_n C.x C.b dL_act_0 rfl (lv_at hl 1 rfl) ?_
  refine lv_if_ne (tgt := 13) C.x C.b dL_act_1 (by decide) (fun _ => ?_) (fun q9 => absurd q9 (by decide))
  refine lv_iload_n C.x C.b dL_act_13 rfl (lv_at hl 1 rfl) ?_
  refine lv_iconst (v := nI 1) C.x C.b dL_act_14 (by decide) ?_
  refine lv_icmp_ne (tgt := 28) C.x C.b dL_act_15 (by decide) (fun _ => ?_) (fun q9 => absurd q9 (by decide))
  refine lv_iload_n C.x C.b dL_act_28 rfl (lv_at hl 1 rfl) ?_
  refine lv_iconst (v := nI 2) C.x C.b dL_act_29 (by decide) ?_
  refine lv_icmp_ne (tgt := 43) C.x C.b dL_act_30 (by decide) (fun _ => ?_) (fun q9 => absurd q9 (by decide))
  refine lv_iload_n C.x C.b dL_act_43 rfl (lv_at hl 1 rfl) ?_
  refine lv_iconst (v := nI 3) C.x C.b dL_act_44 (by decide) ?_
  refine lv_icmp_ne (tgt := 58) C.x C.b dL_act_45 (by decide) (fun _ => ?_) (fun q9 => absurd q9 (by decide))
  refine lv_iload_n C.x C.b dL_act_58 rfl (lv_at hl 1 rfl) ?_
  refine lv_iconst (v := nI 4) C.x C.b dL_act_59 (by decide) ?_
  refine lv_icmp_ne (tgt := 72) C.x C.b dL_act_60 (by decide) (fun _ => ?_) (fun q9 => absurd q9 (by decide))
  refine lv_iload_n C.x C.b dL_act_72 rfl (lv_at hl 1 rfl) ?_
  refine lv_iconst (v := nI 5) C.x C.b dL_act_73 (by decide) ?_
  refine lv_icmp_ne (tgt := 89) C.x C.b dL_act_74 (by decide) (fun _ => ?_) (fun q9 => absurd q9 (by decide))
  refine lv_iload_n C.x C.b dL_act_89 rfl (lv_at hl 1 rfl) ?_
  refine lv_bipush (v := nI 6) C.x C.b dL_act_90 (by decide) ?_
  refine lv_icmp_ne (tgt := 109) C.x C.b dL_act_92 (by decide) (fun _ => ?_) (fun q9 => absurd q9 (by decide))
  refine lv_iload_n C.x C.b dL_act_109 rfl (lv_at hl 1 rfl) ?_
  refine lv_bipush (v := nI 7) C.x C.b dL_act_110 (by decide) ?_
  refine lv_icmp_ne (tgt := 125) C.x C.b dL_act_112 (by decide) (fun q9 => absurd rfl q9) (fun _ => ?_)
  refine lv_aload_n C.x C.b dL_act_115 rfl (lv_at hl 0 rfl) ?_
  refine lv_iload_n C.x C.b dL_act_116 rfl (lv_at hl 2 rfl) ?_
  refine lv_iload_n C.x C.b dL_act_117 rfl (lv_at hl 3 rfl) ?_
  rcases hc with ⟨h0, hg⟩ | hn
  · obtain ⟨rm, mc, ms, ⟨q1, q2, q3, q4, q5, q6⟩, hm⟩ := hg
    refine k_calli (va_runV (As := [.int a, .int b]) (rest := []) C.1 hm (cwV 2 C.ts (gl_up inv_X8_lie) rfl q1 q2 ⟨rfl, hdA_X8_lie⟩ ⟨by show rm.frames + 1 ≤ 301; omega, by show 8 + (_ + 11) + rm.locals ≤ 20040; omega⟩) (k_preV C hX hh rfl) rfl rfl hl.1 rfl (lv_room (Nat.le_of_ble_eq_true rfl)) dL_act_118 ⟨by show 0 + mc ≤ 8; omega, by show 0 + ms ≤ 64; omega⟩) hX (fun r0 f1 H locs hp hX => ?_)
    obtain ⟨hr0, hI1⟩ := hp
    refine lv_i2l (v := r0.toInt64) C.x C.b dL_act_121 rfl ?_
    refine lv_goto (tgt := 435) C.x C.b dL_act_122 (by decide) ?_
    exact k_lretX C hX hr hlocks hQ (by omega) (by omega) ⟨by rw [rvI_0 h0, hr0], hI1⟩ dL_act_435
  rcases hn.cs with ⟨hk, hg⟩ | ⟨hk, hg⟩ | ⟨hk, hg⟩
  · obtain ⟨rm, mc, ms, ⟨q1, q2, q3, q4, q5, q6⟩, hm⟩ := hg
    refine k_catX C (vx_runV (As := [.int a, .int b]) (rest := []) C.1 hm (cwV 2 C.ts (gl_up inv_X8_lie) rfl q1 q2 ⟨rfl, hdA_X8_lie⟩ ⟨by show rm.frames + 1 ≤ 301; omega, by show 8 + (_ + 11) + rm.locals ≤ 20040; omega⟩) (k_preV C hX hh rfl) rfl rfl hl.1 rfl (lv_room (Nat.le_of_ble_eq_true rfl)) dL_act_118 ⟨by show 0 + mc ≤ 8; omega, by show 0 + ms ≤ 64; omega⟩) hX [] (0, 435, 436, 96) [(0, 435, 442, 100), (0, 435, 448, 104)] htab (fun z9 hz9 => by simp at hz9) (by decide) (by decide) lkA_o inA_o (fun q9 f1 H locs hp hX => ?_)
    refine lv_astore (lv' := [(6, .ref q9), (0, .ref h), (1, .int (nI 7)), (2, .int a), (3, .int b), (4, .int x), (5, .int y)]) C.x C.b dL_act_436 hl (by decide) rfl (fun ls hl => ?_)
    refine lv_ldc2 (v := -7000001) C.x C.b C.ow (C.ts _ lkA_c98) dL_act_438 ?_
    exact k_lretX C hX hr hlocks hQ (by omega) (by omega) ⟨by rw [rvI_1 hk], hp⟩ dL_act_441
  · obtain ⟨rm, mc, ms, ⟨q1, q2, q3, q4, q5, q6⟩, hm⟩ := hg
    refine k_catX C (vx_runV (As := [.int a, .int b]) (rest := []) C.1 hm (cwV 2 C.ts (gl_up inv_X8_lie) rfl q1 q2 ⟨rfl, hdA_X8_lie⟩ ⟨by show rm.frames + 1 ≤ 301; omega, by show 8 + (_ + 11) + rm.locals ≤ 20040; omega⟩) (k_preV C hX hh rfl) rfl rfl hl.1 rfl (lv_room (Nat.le_of_ble_eq_true rfl)) dL_act_118 ⟨by show 0 + mc ≤ 8; omega, by show 0 + ms ≤ 64; omega⟩) hX [(0, 435, 436, 96)] (0, 435, 442, 100) [(0, 435, 448, 104)] htab (fun z9 hz9 => by
      simp only [List.mem_cons, List.not_mem_nil, or_false] at hz9
      rcases hz9 with rfl
      · exact ⟨by decide, "java/lang/IndexOutOfBoundsException", lkA_o, by decide +kernel⟩) (by decide) (by decide) lkA_a inA_a (fun q9 f1 H locs hp hX => ?_)
    refine lv_astore (lv' := [(6, .ref q9), (0, .ref h), (1, .int (nI 7)), (2, .int a), (3, .int b), (4, .int x), (5, .int y)]) C.x C.b dL_act_442 hl (by decide) rfl (fun ls hl => ?_)
    refine lv_ldc2 (v := -7000002) C.x C.b C.ow (C.ts _ lkA_c102) dL_act_444 ?_
    exact k_lretX C hX hr hlocks hQ (by omega) (by omega) ⟨by rw [rvI_2 hk], hp⟩ dL_act_447
  · obtain ⟨rm, mc, ms, ⟨q1, q2, q3, q4, q5, q6⟩, hm⟩ := hg
    refine k_catX C (vx_runV (As := [.int a, .int b]) (rest := []) C.1 hm (cwV 2 C.ts (gl_up inv_X8_lie) rfl q1 q2 ⟨rfl, hdA_X8_lie⟩ ⟨by show rm.frames + 1 ≤ 301; omega, by show 8 + (_ + 11) + rm.locals ≤ 20040; omega⟩) (k_preV C hX hh rfl) rfl rfl hl.1 rfl (lv_room (Nat.le_of_ble_eq_true rfl)) dL_act_118 ⟨by show 0 + mc ≤ 8; omega, by show 0 + ms ≤ 64; omega⟩) hX [(0, 435, 436, 96), (0, 435, 442, 100)] (0, 435, 448, 104) [] htab (fun z9 hz9 => by
      simp only [List.mem_cons, List.not_mem_nil, or_false] at hz9
      rcases hz9 with rfl | rfl
      · exact ⟨by decide, "java/lang/IndexOutOfBoundsException", lkA_o, by decide +kernel⟩
      · exact ⟨by decide, "java/lang/IllegalArgumentException", lkA_a, by decide +kernel⟩) (by decide) (by decide) lkA_s inA_s (fun q9 f1 H locs hp hX => ?_)
    refine lv_astore (lv' := [(6, .ref q9), (0, .ref h), (1, .int (nI 7)), (2, .int a), (3, .int b), (4, .int x), (5, .int y)]) C.x C.b dL_act_448 hl (by decide) rfl (fun ls hl => ?_)
    refine lv_ldc2 (v := -7000003) C.x C.b C.ow (C.ts _ lkA_c106) dL_act_450 ?_
    exact k_lretX C hX hr hlocks hQ (by omega) (by omega) ⟨by rw [rvI_3 hk], hp⟩ dL_act_453
theorem hdA_X8_pairs : yX8_pairs.cls ≠ "java/lang/invoke/MethodHandle" ∧ yX8_pairs.cls ≠ "java/lang/invoke/VarHandle" ∧ (parseMethodDescriptor yX8_pairs.desc).map (fun d => d.parameters.length) = some 1 := by decide +kernel
set_option maxHeartbeats 2000000 in
theorem act_8 {l : Launch} {G : kG} {B0 h : Nat} {f : kH} (hh : ∃ vs, f h = some (.inr (8, vs))) (a b x y : Int32) {R : pRI} (hc : cI l G B0 h f yX8_pairs wsX8_pairs [.int a] R) : vx_Met l yL_act wsP_act rmA (kP G B0 f [.ref h, .int (nI 8), .int a, .int b, .int x, .int y]) (kQl G B0 (fun r f1 => r = rvI R ∧ Inv G h f1 R.2.2)) (kXN G B0) 8 64 (kAb B0) := by
  obtain ⟨vs, hh⟩ := hh
  refine kMetH (cc := cL_act) (maxL := 7) (ret := (some .long)) (hh := [(0, 435, 436, 96), (0, 435, 442, 100), (0, 435, 448, 104)]) (by decide) rfl (Nat.le_of_ble_eq_true rfl) ?_
  intro p e s m args below meth c H locs Q ls C hX hl hr hlocks hQ htab
  have hl : lv_has ls 7 [(0, .ref h), (1, .int (nI 8)), (2, .int a), (3, .int b), (4, .int x), (5, .int y)] := hl
  refine lv_iload_n C.x C.b dL_act_0 rfl (lv_at hl 1 rfl) ?_
  refine lv_if_ne (tgt := 13) C.x C.b dL_act_1 (by decide) (fun _ => ?_) (fun q9 => absurd q9 (by decide))
  refine lv_iload_n C.x C.b dL_act_13 rfl (lv_at hl 1 rfl) ?_
  refine lv_iconst (v := nI 1) C.x C.b dL_act_14 (by decide) ?_
  refine lv_icmp_ne (tgt := 28) C.x C.b dL_act_15 (by decide) (fun _ => ?_) (fun q9 => absurd q9 (by decide))
  refine lv_iload_n C.x C.b dL_act_28 rfl (lv_at hl 1 rfl) ?_
  refine lv_iconst (v := nI 2) C.x C.b dL_act_29 (by decide) ?_
  refine lv_icmp_ne (tgt := 43) C.x C.b dL_act_30 (by decide) (fun _ => ?_) (fun q9 => absurd q9 (by decide))
  refine lv_iload_n C.x C.b dL_act_43 rfl (lv_at hl 1 rfl) ?_
  refine lv_iconst (v := nI 3) C.x C.b dL_act_44 (by decide) ?_
  refine lv_icmp_ne (tgt := 58) C.x C.b dL_act_45 (by decide) (fun _ => ?_) (fun q9 => absurd q9 (by decide))
  refine lv_iload_n C.x C.b dL_act_58 rfl (lv_at hl 1 rfl) ?_
  refine lv_iconst (v := nI 4) C.x C.b dL_act_59 (by decide) ?_
  refine lv_icmp_ne (tgt := 72) C.x C.b dL_act_60 (by decide) (fun _ => ?_) (fun q9 => absurd q9 (by decide))
  refine lv_iload_n C.x C.b dL_act_72 rfl (lv_at hl 1 rfl) ?_
  refine lv_iconst (v := nI 5) C.x C.b dL_act_73 (by decide) ?_
  refine lv_icmp_ne (tgt := 89) C.x C.b dL_act_74 (by decide) (fun _ => ?_) (fun q9 => absurd q9 (by decide))
  refine lv_iload_n C.x C.b dL_act_89 rfl (lv_at hl 1 rfl) ?_
  refine lv_bipush (v := nI 6) C.x C.b dL_act_90 (by decide) ?_
  refine lv_icmp_ne (tgt := 109) C.x C.b dL_act_92 (by decide) (fun _ => ?_) (fun q9 => absurd q9 (by decide))
  refine lv_iload_n C.x C.b dL_act_109 rfl (lv_at hl 1 rfl) ?_
  refine lv_bipush (v := nI 7) C.x C.b dL_act_110 (by decide) ?_
  refine lv_icmp_ne (tgt := 125) C.x C.b dL_act_112 (by decide) (fun _ => ?_) (fun q9 => absurd q9 (by decide))
  refine lv_iload_n C.x C.b dL_act_125 rfl (lv_at hl 1 rfl) ?_
  refine lv_bipush (v := nI 8) C.x C.b dL_act_126 (by decide) ?_
  refine lv_icmp_ne (tgt := 140) C.x C.b dL_act_128 (by decide) (fun q9 => absurd rfl q9) (fun _ => ?_)
  refine lv_aload_n C.x C.b dL_act_131 rfl (lv_at hl 0 rfl) ?_
  refine lv_iload_n C.x C.b dL_act_132 rfl (lv_at hl 2 rfl) ?_
  rcases hc with ⟨h0, hg⟩ | hn
  · obtain ⟨rm, mc, ms, ⟨q1, q2, q3, q4, q5, q6⟩, hm⟩ := hg
    refine k_calli (va_runV (As := [.int a]) (rest := []) C.1 hm (cwV 1 C.ts (gl_up inv_X8_pairs) rfl q1 q2 ⟨rfl, hdA_X8_pairs⟩ ⟨by show rm.frames + 1 ≤ 301; omega, by show 8 + (_ + 11) + rm.locals ≤ 20040; omega⟩) (k_preV C hX hh rfl) rfl rfl hl.1 rfl (lv_room (Nat.le_of_ble_eq_true rfl)) dL_act_133 ⟨by show 0 + mc ≤ 8; omega, by show 0 + ms ≤ 64; omega⟩) hX (fun r0 f1 H locs hp hX => ?_)
    obtain ⟨hr0, hI1⟩ := hp
    refine lv_i2l (v := r0.toInt64) C.x C.b dL_act_136 rfl ?_
    refine lv_goto (tgt := 435) C.x C.b dL_act_137 (by decide) ?_
    exact k_lretX C hX hr hlocks hQ (by omega) (by omega) ⟨by rw [rvI_0 h0, hr0], hI1⟩ dL_act_435
  rcases hn.cs with ⟨hk, hg⟩ | ⟨hk, hg⟩ | ⟨hk, hg⟩
  · obtain ⟨rm, mc, ms, ⟨q1, q2, q3, q4, q5, q6⟩, hm⟩ := hg
    refine k_catX C (vx_runV (As := [.int a]) (rest := []) C.1 hm (cwV 1 C.ts (gl_up inv_X8_pairs) rfl q1 q2 ⟨rfl, hdA_X8_pairs⟩ ⟨by show rm.frames + 1 ≤ 301; omega, by show 8 + (_ + 11) + rm.locals ≤ 20040; omega⟩) (k_preV C hX hh rfl) rfl rfl hl.1 rfl (lv_room (Nat.le_of_ble_eq_true rfl)) dL_act_133 ⟨by show 0 + mc ≤ 8; omega, by show 0 + ms ≤ 64; omega⟩) hX [] (0, 435, 436, 96) [(0, 435, 442, 100), (0, 435, 448, 104)] htab (fun z9 hz9 => by simp at hz9) (by decide) (by decide) lkA_o inA_o (fun q9 f1 H locs hp hX => ?_)
    refine lv_astore (lv' := [(6, .ref q9), (0, .ref h), (1, .int (nI 8)), (2, .int a), (3, .int b), (4, .int x), (5, .int y)]) C.x C.b dL_act_436 hl (by decide) rfl (fun ls hl => ?_)
    refine lv_ldc2 (v := -7000001) C.x C.b C.ow (C.ts _ lkA_c98) dL_act_438 ?_
    exact k_lretX C hX hr hlocks hQ (by omega) (by omega) ⟨by rw [rvI_1 hk], hp⟩ dL_act_441
  · obtain ⟨rm, mc, ms, ⟨q1, q2, q3, q4, q5, q6⟩, hm⟩ := hg
    refine k_catX C (vx_runV (As := [.int a]) (rest := []) C.1 hm (cwV 1 C.ts (gl_up inv_X8_pairs) rfl q1 q2 ⟨rfl, hdA_X8_pairs⟩ ⟨by show rm.frames + 1 ≤ 301; omega, by show 8 + (_ + 11) + rm.locals ≤ 20040; omega⟩) (k_preV C hX hh rfl) rfl rfl hl.1 rfl (lv_room (Nat.le_of_ble_eq_true rfl)) dL_act_133 ⟨by show 0 + mc ≤ 8; omega, by show 0 + ms ≤ 64; omega⟩) hX [(0, 435, 436, 96)] (0, 435, 442, 100) [(0, 435, 448, 104)] htab (fun z9 hz9 => by
      simp only [List.mem_cons, List.not_mem_nil, or_false] at hz9
      rcases hz9 with rfl
      · exact ⟨by decide, "java/lang/IndexOutOfBoundsException", lkA_o, by decide +kernel⟩) (by decide) (by decide) lkA_a inA_a (fun q9 f1 H locs hp hX => ?_)
    refine lv_astore (lv' := [(6, .ref q9), (0, .ref h), (1, .int (nI 8)), (2, .int a), (3, .int b), (4, .int x), (5, .int y)]) C.x C.b dL_act_442 hl (by decide) rfl (fun ls hl => ?_)
    refine lv_ldc2 (v := -7000002) C.x C.b C.ow (C.ts _ lkA_c102) dL_act_444 ?_
    exact k_lretX C hX hr hlocks hQ (by omega) (by omega) ⟨by rw [rvI_2 hk], hp⟩ dL_act_447
  · obtain ⟨rm, mc, ms, ⟨q1, q2, q3, q4, q5, q6⟩, hm⟩ := hg
    refine k_catX C (vx_runV (As := [.int a]) (rest := []) C.1 hm (cwV 1 C.ts (gl_up inv_X8_pairs) rfl q1 q2 ⟨rfl, hdA_X8_pairs⟩ ⟨by show rm.frames + 1 ≤ 301; omega, by show 8 + (_ + 11) + rm.locals ≤ 20040; omega⟩) (k_preV C hX hh rfl) rfl rfl hl.1 rfl (lv_room (Nat.le_of_ble_eq_true rfl)) dL_act_133 ⟨by show 0 + mc ≤ 8; omega, by show 0 + ms ≤ 64; omega⟩) hX [(0, 435, 436, 96), (0, 435, 442, 100)] (0, 435, 448, 104) [] htab (fun z9 hz9 => by
      simp only [List.mem_cons, List.not_mem_nil, or_false] at hz9
      rcases hz9 with rfl | rfl
      · exact ⟨by decide, "java/lang/IndexOutOfBoundsException", lkA_o, by decide +kernel⟩
      · exact ⟨by decide, "java/lang/IllegalArgumentException", lkA_a, by decide +kernel⟩) (by decide) (by decide) lkA_s inA_s (fun q9 f1 H locs hp hX => ?_)
    refine lv_astore (lv' := [(6, .ref q9), (0, .ref h), (1, .int (nI 8)), (2, .int a), (3, .int b), (4, .int x), (5, .int y)]) C.x C.b dL_act_448 hl (by decide) rfl (fun ls hl => ?_)
    refine lv_ldc2 (v := -7000003) C.x C.b C.ow (C.ts _ lkA_c106) dL_act_450 ?_
    exact k_lretX C hX hr hlocks hQ (by omega) (by omega) ⟨by rw [rvI_3 hk], hp⟩ dL_act_453
