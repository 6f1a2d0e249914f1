set_option maxHeartbeats 16000000 in
set_option maxRecDepth 100000 in
theorem pL_fractions {l : Launch} (hst : l.stackTraces = false) {G : kG} {B0 : Nat} {f : kH} : Met l yL_fractions wsP_fractions rmH (kP G B0 f []) (kQi G B0 (fun r f1 => r = nI 1 ∧ True)) 9000 72000 (kAb B0) := by
  refine kMet (cc := cL_fractions) (maxL := 1) (ret := (some .boolean)) (by decide) rfl (Nat.le_of_ble_eq_true rfl) ?_
  intro p e s mi args below meth c H locs Q ls C hX hl hr hlocks hnm hQ
  refine k_new (X := RX8) (T := TX8) (N := 7) (ci := 8) (fs := [.null, .null, .null, .null, .null, .null, .null]) C hX (fun w9 h9 => List.mem_cons_of_mem _ (inlX8 w9 h9)) tyX8_ok (fun w9 h9 => List.mem_cons_of_mem _ (in_new w9 h9)) rfl (by decide) (Nat.le_of_ble_eq_true rfl) (Nat.le_of_ble_eq_true rfl) dL_fractions_0 (fun h H hn hX => ?_)
  refine lv_dup C.x C.b dL_fractions_3 rfl ?_
  have h0 : kCs (kst f h (.inr (8, [.null, .null, .null, .null, .null, .null, .null]))) [(h, .inr (8, [.null, .null, .null, .null, .null, .null, .null]))] := ⟨fun q hq => by rw [List.mem_singleton.mp hq]; exact kst_s _ _ _, by simp⟩
  refine k_callv (va_runI (As := []) (rest := [.ref h]) C.1 (kX8_init l G B0 _ h h0) (cwI 0 C.ts (gl_up inw_X8_init) rfl rfl rfl (C.ts (.initialized RX8) (List.mem_cons_of_mem _ (in_ini _ (by simp)))) (C.ts (.methodLink RL 126 yX8_init) (List.mem_cons_of_mem _ (in_ini _ (by simp)))) (C.ts (.instanceMethod yX8_init) (List.mem_cons_of_mem _ (in_ini _ (by simp)))) rfl hdA_X8_init ⟨Nat.le_of_ble_eq_true rfl, Nat.le_of_ble_eq_true rfl⟩) (k_preS C hX) rfl rfl hl.1 rfl (lv_room (Nat.le_of_ble_eq_true rfl)) dL_fractions_4 ⟨Nat.le_of_ble_eq_true rfl, Nat.le_of_ble_eq_true rfl⟩) hX (fun f H locs hp hX => ?_)
  obtain ⟨sp, nA, tA, dl, gl, rw9, sA, wA, ml, pp, nn, wL, qm, rm9, h1, -, -⟩ := hp
  have hI : Inv G h f p0 := Inv_start h1
  refine W.widen (k := 24) (n := 600) (by decide) (by decide) ?_
  refine lv_astore_n (lv' := [(0, .ref h)]) C.x C.b dL_fractions_7 rfl hl (by decide) rfl (fun ls hl => ?_)
  refine lv_aload_n C.x C.b dL_fractions_8 rfl (lv_at hl 0 rfl) ?_
  refine lv_iconst (v := (nI 0)) C.x C.b dL_fractions_9 (by decide) ?_
  refine lv_iconst (v := (nI 1)) C.x C.b dL_fractions_10 (by decide) ?_
  refine lv_iconst (v := (nI 1)) C.x C.b dL_fractions_11 (by decide) ?_
  refine lv_iconst (v := (nI 1)) C.x C.b dL_fractions_12 (by decide) ?_
  refine k_cI (As := [.int (nI 0), .int (nI 1), .int (nI 1), .int (nI 1)]) (rest := []) (c2 := 32) (s2 := 664) (v := (nI 1)) (m1 := p0) C hX (iop_ford hst hI (nI 0) (nI 1) (nI 1) (nI 1)) (ev_ford (by decide +kernel) (by decide +kernel)) hI.hd (gl_up inv_X8_ford) rfl ⟨rfl, hdA_X8_ford⟩ (by decide) rfl hl.1 rfl (by decide) dL_fractions_13 ⟨Nat.le_of_ble_eq_true rfl, Nat.le_of_ble_eq_true rfl⟩ ⟨Nat.le_of_ble_eq_true rfl, Nat.le_of_ble_eq_true rfl⟩ rfl rfl (fun f H locs hX hI => ?_)
  refine lv_iconst (v := (nI 1)) C.x C.b dL_fractions_16 (by decide) ?_
  refine lv_icmp_ne (tgt := 159) C.x C.b dL_fractions_17 (by decide) (fun q9 => absurd (by decide) q9) (fun _ => ?_)
  refine lv_aload_n C.x C.b dL_fractions_20 rfl (lv_at hl 0 rfl) ?_
  refine lv_iconst (v := (nI 0)) C.x C.b dL_fractions_21 (by decide) ?_
  refine lv_iconst (v := (nI 1)) C.x C.b dL_fractions_22 (by decide) ?_
  refine lv_iconst (v := (nI 1)) C.x C.b dL_fractions_23 (by decide) ?_
  refine lv_iconst (v := (nI 2)) C.x C.b dL_fractions_24 (by decide) ?_
  refine k_cI (As := [.int (nI 0), .int (nI 1), .int (nI 1), .int (nI 2)]) (rest := []) (c2 := 40) (s2 := 728) (v := (nI 1)) (m1 := p0) C hX (iop_ford hst hI (nI 0) (nI 1) (nI 1) (nI 2)) (ev_ford (by decide +kernel) (by decide +kernel)) hI.hd (gl_up inv_X8_ford) rfl ⟨rfl, hdA_X8_ford⟩ (by decide) rfl hl.1 rfl (by decide) dL_fractions_25 ⟨Nat.le_of_ble_eq_true rfl, Nat.le_of_ble_eq_true rfl⟩ ⟨Nat.le_of_ble_eq_true rfl, Nat.le_of_ble_eq_true rfl⟩ rfl rfl (fun f H locs hX hI => ?_)
  refine lv_iconst (v := (nI 1)) C.x C.b dL_fractions_28 (by decide) ?_
  refine lv_icmp_ne (tgt := 159) C.x C.b dL_fractions_29 (by decide) (fun q9 => absurd (by decide) q9) (fun _ => ?_)
  refine lv_aload_n C.x C.b dL_fractions_32 rfl (lv_at hl 0 rfl) ?_
  refine lv_iconst (v := (nI 0)) C.x C.b dL_fractions_33 (by decide) ?_
  refine lv_iconst (v := (nI 1)) C.x C.b dL_fractions_34 (by decide) ?_
  refine lv_iconst (v := (nI 2)) C.x C.b dL_fractions_35 (by decide) ?_
  refine lv_iconst (v := (nI 5)) C.x C.b dL_fractions_36 (by decide) ?_
  refine k_cI (As := [.int (nI 0), .int (nI 1), .int (nI 2), .int (nI 5)]) (rest := []) (c2 := 48) (s2 := 792) (v := (nI 0)) (m1 := p0) C hX (iop_ford hst hI (nI 0) (nI 1) (nI 2) (nI 5)) (ev_ford (by decide +kernel) (by decide +kernel)) hI.hd (gl_up inv_X8_ford) rfl ⟨rfl, hdA_X8_ford⟩ (by decide) rfl hl.1 rfl (by decide) dL_fractions_37 ⟨Nat.le_of_ble_eq_true rfl, Nat.le_of_ble_eq_true rfl⟩ ⟨Nat.le_of_ble_eq_true rfl, Nat.le_of_ble_eq_true rfl⟩ rfl rfl (fun f H locs hX hI => ?_)
  refine lv_if_ne (tgt := 159) C.x C.b dL_fractions_40 (by decide) (fun q9 => absurd (by decide) q9) (fun _ => ?_)
  refine lv_aload_n C.x C.b dL_fractions_43 rfl (lv_at hl 0 rfl) ?_
  refine lv_iconst (v := (nI 1)) C.x C.b dL_fractions_44 (by decide) ?_
  refine lv_iconst (v := (nI 2)) C.x C.b dL_fractions_45 (by decide) ?_
  refine lv_iconst (v := (nI 1)) C.x C.b dL_fractions_46 (by decide) ?_
  refine lv_iconst (v := (nI 2)) C.x C.b dL_fractions_47 (by decide) ?_
  refine k_cI (As := [.int (nI 1), .int (nI 2), .int (nI 1), .int (nI 2)]) (rest := []) (c2 := 56) (s2 := 856) (v := (nI 2)) (m1 := p0) C hX (iop_ford hst hI (nI 1) (nI 2) (nI 1) (nI 2)) (ev_ford (by decide +kernel) (by decide +kernel)) hI.hd (gl_up inv_X8_ford) rfl ⟨rfl, hdA_X8_ford⟩ (by decide) rfl hl.1 rfl (by decide) dL_fractions_48 ⟨Nat.le_of_ble_eq_true rfl, Nat.le_of_ble_eq_true rfl⟩ ⟨Nat.le_of_ble_eq_true rfl, Nat.le_of_ble_eq_true rfl⟩ rfl rfl (fun f H locs hX hI => ?_)
  refine lv_iconst (v := (nI 2)) C.x C.b dL_fractions_51 (by decide) ?_
  refine lv_icmp_ne (tgt := 159) C.x C.b dL_fractions_52 (by decide) (fun q9 => absurd (by decide) q9) (fun _ => ?_)
  refine lv_aload_n C.x C.b dL_fractions_55 rfl (lv_at hl 0 rfl) ?_
  refine lv_bipush (v := (-3)) C.x C.b dL_fractions_56 (by decide) ?_
  refine lv_iconst (v := (nI 2)) C.x C.b dL_fractions_58 (by decide) ?_
  refine lv_bipush (v := (-4)) C.x C.b dL_fractions_59 (by decide) ?_
  refine lv_iconst (v := (nI 3)) C.x C.b dL_fractions_61 (by decide) ?_
  refine k_cI (As := [.int (-3), .int (nI 2), .int (-4), .int (nI 3)]) (rest := []) (c2 := 64) (s2 := 920) (v := (nI 1)) (m1 := p0) C hX (iop_ford hst hI (-3) (nI 2) (-4) (nI 3)) (ev_ford (by decide +kernel) (by decide +kernel)) hI.hd (gl_up inv_X8_ford) rfl ⟨rfl, hdA_X8_ford⟩ (by decide) rfl hl.1 rfl (by decide) dL_fractions_62 ⟨Nat.le_of_ble_eq_true rfl, Nat.le_of_ble_eq_true rfl⟩ ⟨Nat.le_of_ble_eq_true rfl, Nat.le_of_ble_eq_true rfl⟩ rfl rfl (fun f H locs hX hI => ?_)
  refine lv_iconst (v := (nI 1)) C.x C.b dL_fractions_65 (by decide) ?_
  refine lv_icmp_ne (tgt := 159) C.x C.b dL_fractions_66 (by decide) (fun q9 => absurd (by decide) q9) (fun _ => ?_)
  refine lv_aload_n C.x C.b dL_fractions_69 rfl (lv_at hl 0 rfl) ?_
  refine lv_iconst (v := (-1)) C.x C.b dL_fractions_70 (by decide) ?_
  refine lv_iconst (v := (nI 2)) C.x C.b dL_fractions_71 (by decide) ?_
  refine lv_iconst (v := (nI 1)) C.x C.b dL_fractions_72 (by decide) ?_
  refine lv_iconst (v := (nI 2)) C.x C.b dL_fractions_73 (by decide) ?_
  refine k_cI (As := [.int (-1), .int (nI 2), .int (nI 1), .int (nI 2)]) (rest := []) (c2 := 72) (s2 := 984) (v := (nI 0)) (m1 := p0) C hX (iop_ford hst hI (-1) (nI 2) (nI 1) (nI 2)) (ev_ford (by decide +kernel) (by decide +kernel)) hI.hd (gl_up inv_X8_ford) rfl ⟨rfl, hdA_X8_ford⟩ (by decide) rfl hl.1 rfl (by decide) dL_fractions_74 ⟨Nat.le_of_ble_eq_true rfl, Nat.le_of_ble_eq_true rfl⟩ ⟨Nat.le_of_ble_eq_true rfl, Nat.le_of_ble_eq_true rfl⟩ rfl rfl (fun f H locs hX hI => ?_)
  refine lv_if_ne (tgt := 159) C.x C.b dL_fractions_77 (by decide) (fun q9 => absurd (by decide) q9) (fun _ => ?_)
  refine lv_aload_n C.x C.b dL_fractions_80 rfl (lv_at hl 0 rfl) ?_
  refine lv_ldc (v := (nI 1000000000)) C.x C.b C.ow (C.ts _ (List.mem_cons_of_mem _ lkC_641)) dL_fractions_81 ?_
  refine lv_ldc (v := (nI 999999999)) C.x C.b C.ow (C.ts _ (List.mem_cons_of_mem _ lkC_678)) dL_fractions_83 ?_
  refine lv_ldc (v := (nI 1000000000)) C.x C.b C.ow (C.ts _ (List.mem_cons_of_mem _ lkC_641)) dL_fractions_85 ?_
  refine lv_ldc (v := (nI 999999999)) C.x C.b C.ow (C.ts _ (List.mem_cons_of_mem _ lkC_678)) dL_fractions_87 ?_
  refine k_cI (As := [.int (nI 1000000000), .int (nI 999999999), .int (nI 1000000000), .int (nI 999999999)]) (rest := []) (c2 := 80) (s2 := 1048) (v := (nI 2)) (m1 := p0) C hX (iop_ford hst hI (nI 1000000000) (nI 999999999) (nI 1000000000) (nI 999999999)) (ev_ford (by decide +kernel) (by decide +kernel)) hI.hd (gl_up inv_X8_ford) rfl ⟨rfl, hdA_X8_ford⟩ (by decide) rfl hl.1 rfl (by decide) dL_fractions_89 ⟨Nat.le_of_ble_eq_true rfl, Nat.le_of_ble_eq_true rfl⟩ ⟨Nat.le_of_ble_eq_true rfl, Nat.le_of_ble_eq_true rfl⟩ rfl rfl (fun f H locs hX hI => ?_)
  refine lv_iconst (v := (nI 2)) C.x C.b dL_fractions_92 (by decide) ?_
  refine lv_icmp_ne (tgt := 159) C.x C.b dL_fractions_93 (by decide) (fun q9 => absurd (by decide) q9) (fun _ => ?_)
  refine lv_aload_n C.x C.b dL_fractions_96 rfl (lv_at hl 0 rfl) ?_
  refine lv_ldc (v := (-1000000000)) C.x C.b C.ow (C.ts _ (List.mem_cons_of_mem _ lkC_640)) dL_fractions_97 ?_
  refine lv_ldc (v := (nI 999999999)) C.x C.b C.ow (C.ts _ (List.mem_cons_of_mem _ lkC_678)) dL_fractions_99 ?_
  refine lv_ldc (v := (nI 999999999)) C.x C.b C.ow (C.ts _ (List.mem_cons_of_mem _ lkC_678)) dL_fractions_101 ?_
  refine lv_ldc (v := (nI 1000000000)) C.x C.b C.ow (C.ts _ (List.mem_cons_of_mem _ lkC_641)) dL_fractions_103 ?_
  refine k_cI (As := [.int (-1000000000), .int (nI 999999999), .int (nI 999999999), .int (nI 1000000000)]) (rest := []) (c2 := 88) (s2 := 1112) (v := (nI 0)) (m1 := p0) C hX (iop_ford hst hI (-1000000000) (nI 999999999) (nI 999999999) (nI 1000000000)) (ev_ford (by decide +kernel) (by decide +kernel)) hI.hd (gl_up inv_X8_ford) rfl ⟨rfl, hdA_X8_ford⟩ (by decide) rfl hl.1 rfl (by decide) dL_fractions_105 ⟨Nat.le_of_ble_eq_true rfl, Nat.le_of_ble_eq_true rfl⟩ ⟨Nat.le_of_ble_eq_true rfl, Nat.le_of_ble_eq_true rfl⟩ rfl rfl (fun f H locs hX hI => ?_)
  refine lv_if_ne (tgt := 159) C.x C.b dL_fractions_108 (by decide) (fun q9 => absurd (by decide) q9) (fun _ => ?_)
  refine lv_aload_n C.x C.b dL_fractions_111 rfl (lv_at hl 0 rfl) ?_
  refine lv_bipush (v := (nI 17)) C.x C.b dL_fractions_112 (by decide) ?_
  refine lv_iconst (v := (nI 2)) C.x C.b dL_fractions_114 (by decide) ?_
  refine lv_iconst (v := (nI 4)) C.x C.b dL_fractions_115 (by decide) ?_
  refine lv_iconst (v := (nI 1)) C.x C.b dL_fractions_116 (by decide) ?_
  refine lv_iconst (v := (nI 1)) C.x C.b dL_fractions_117 (by decide) ?_
  refine k_actI (As := [.ref h, .int (nI 17), .int (nI 2), .int (nI 4), .int (nI 1), .int (nI 1)]) (rest := []) (c2 := 96) (s2 := 1176) (v := (-7000002)) (m1 := p0) C hX (act_17 hI.hd (nI 2) (nI 4) (nI 1) (nI 1) (iop_ford hst hI (nI 2) (nI 4) (nI 1) (nI 1))) (e_ford_a (fun z => absurd z.1 (by decide +kernel))) (rfl) (gl_up inv_L_act) rfl hl.1 rfl (by decide) dL_fractions_118 ⟨Nat.le_of_ble_eq_true rfl, Nat.le_of_ble_eq_true rfl⟩ ⟨Nat.le_of_ble_eq_true rfl, Nat.le_of_ble_eq_true rfl⟩ rfl rfl (fun f H locs hX hI => ?_)
  refine lv_ldc2 (v := (-7000002)) C.x C.b C.ow (C.ts _ (List.mem_cons_of_mem _ lkC_6)) dL_fractions_121 ?_
  refine k_lcmp_ne (tgt := 159) C.x C.b dL_fractions_124 dL_fractions_125 (by decide) (fun q9 => absurd (by decide) q9) (fun _ => ?_)
  refine lv_aload_n C.x C.b dL_fractions_128 rfl (lv_at hl 0 rfl) ?_
  refine lv_bipush (v := (nI 17)) C.x C.b dL_fractions_129 (by decide) ?_
  refine lv_iconst (v := (nI 0)) C.x C.b dL_fractions_131 (by decide) ?_
  refine lv_iconst (v := (nI 2)) C.x C.b dL_fractions_132 (by decide) ?_
  refine lv_iconst (v := (nI 1)) C.x C.b dL_fractions_133 (by decide) ?_
  refine lv_iconst (v := (nI 1)) C.x C.b dL_fractions_134 (by decide) ?_
  refine k_actI (As := [.ref h, .int (nI 17), .int (nI 0), .int (nI 2), .int (nI 1), .int (nI 1)]) (rest := []) (c2 := 104) (s2 := 1240) (v := (-7000002)) (m1 := p0) C hX (act_17 hI.hd (nI 0) (nI 2) (nI 1) (nI 1) (iop_ford hst hI (nI 0) (nI 2) (nI 1) (nI 1))) (e_ford_a (fun z => absurd z.1 (by decide +kernel))) (rfl) (gl_up inv_L_act) rfl hl.1 rfl (by decide) dL_fractions_135 ⟨Nat.le_of_ble_eq_true rfl, Nat.le_of_ble_eq_true rfl⟩ ⟨Nat.le_of_ble_eq_true rfl, Nat.le_of_ble_eq_true rfl⟩ rfl rfl (fun f H locs hX hI => ?_)
  refine lv_ldc2 (v := (-7000002)) C.x C.b C.ow (C.ts _ (List.mem_cons_of_mem _ lkC_6)) dL_fractions_138 ?_
  refine k_lcmp_ne (tgt := 159) C.x C.b dL_fractions_141 dL_fractions_142 (by decide) (fun q9 => absurd (by decide) q9) (fun _ => ?_)
  refine lv_aload_n C.x C.b dL_fractions_145 rfl (lv_at hl 0 rfl) ?_
  refine lv_ldc (v := (nI 999999999)) C.x C.b C.ow (C.ts _ (List.mem_cons_of_mem _ lkC_678)) dL_fractions_146 ?_
  refine lv_ldc (v := (nI 1000000000)) C.x C.b C.ow (C.ts _ (List.mem_cons_of_mem _ lkC_641)) dL_fractions_148 ?_
  refine lv_iconst (v := (nI 1)) C.x C.b dL_fractions_150 (by decide) ?_
  refine lv_iconst (v := (nI 1)) C.x C.b dL_fractions_151 (by decide) ?_
  refine k_cI (As := [.int (nI 999999999), .int (nI 1000000000), .int (nI 1), .int (nI 1)]) (rest := []) (c2 := 112) (s2 := 1304) (v := (nI 1)) (m1 := p0) C hX (iop_ford hst hI (nI 999999999) (nI 1000000000) (nI 1) (nI 1)) (ev_ford (by decide +kernel) (by decide +kernel)) hI.hd (gl_up inv_X8_ford) rfl ⟨rfl, hdA_X8_ford⟩ (by decide) rfl hl.1 rfl (by decide) dL_fractions_152 ⟨Nat.le_of_ble_eq_true rfl, Nat.le_of_ble_eq_true rfl⟩ ⟨Nat.le_of_ble_eq_true rfl, Nat.le_of_ble_eq_true rfl⟩ rfl rfl (fun f H locs hX hI => ?_)
  refine lv_iconst (v := (nI 1)) C.x C.b dL_fractions_155 (by decide) ?_
  refine lv_icmp_eq (tgt := 161) C.x C.b dL_fractions_156 (by decide) (fun _ => ?_) (fun q9 => absurd (by decide) q9)
  refine lv_aload_n C.x C.b dL_fractions_161 rfl (lv_at hl 0 rfl) ?_
  refine lv_iconst (v := (nI 0)) C.x C.b dL_fractions_162 (by decide) ?_
  refine lv_iconst (v := (nI 1)) C.x C.b dL_fractions_163 (by decide) ?_
  refine lv_iconst (v := (nI 1)) C.x C.b dL_fractions_164 (by decide) ?_
  refine lv_iconst (v := (nI 1)) C.x C.b dL_fractions_165 (by decide) ?_
  refine lv_lconst (v := 1) C.x C.b dL_fractions_166 (by decide) ?_
  refine lv_ldc2 (v := 2) C.x C.b C.ow (C.ts _ (List.mem_cons_of_mem _ lkC_654)) dL_fractions_167 ?_
  refine k_law (As := [.ref h, .int (nI 0), .int (nI 1), .int (nI 1), .int (nI 1), .long 1, .long 2]) (rest := []) (c2 := 192) (s2 := 1944) (m1 := p0) C hX (pL_between hst hI (nI 0) (nI 1) (nI 1) (nI 1) 1 2 (ev_between (by decide +kernel) (by decide +kernel)) (ev_between (by decide +kernel) (by decide +kernel)) (ev_between (by decide +kernel) (by decide +kernel)) (ev_between (by decide +kernel) (by decide +kernel))) (gl_up inv_L_between) rfl rfl rfl hdP_L_between ⟨Nat.le_of_ble_eq_true rfl, Nat.le_of_ble_eq_true rfl⟩ rfl hl.1 rfl (by decide) dL_fractions_170 ⟨Nat.le_of_ble_eq_true rfl, Nat.le_of_ble_eq_true rfl⟩ rfl rfl (fun f H locs hX hI => ?_)
  refine lv_if_eq (tgt := 365) C.x C.b dL_fractions_173 (by decide) (fun q9 => absurd q9 (by decide)) (fun _ => ?_)
  refine lv_aload_n C.x C.b dL_fractions_176 rfl (lv_at hl 0 rfl) ?_
  refine lv_iconst (v := (nI 1)) C.x C.b dL_fractions_177 (by decide) ?_
  refine lv_iconst (v := (nI 3)) C.x C.b dL_fractions_178 (by decide) ?_
  refine lv_iconst (v := (nI 1)) C.x C.b dL_fractions_179 (by decide) ?_
  refine lv_iconst (v := (nI 2)) C.x C.b dL_fractions_180 (by decide) ?_
  refine lv_ldc2 (v := 2) C.x C.b C.ow (C.ts _ (List.mem_cons_of_mem _ lkC_654)) dL_fractions_181 ?_
  refine lv_ldc2 (v := 5) C.x C.b C.ow (C.ts _ (List.mem_cons_of_mem _ lkC_679)) dL_fractions_184 ?_
  refine k_law (As := [.ref h, .int (nI 1), .int (nI 3), .int (nI 1), .int (nI 2), .long 2, .long 5]) (rest := []) (c2 := 272) (s2 := 2584) (m1 := p0) C hX (pL_between hst hI (nI 1) (nI 3) (nI 1) (nI 2) 2 5 (ev_between (by decide +kernel) (by decide +kernel)) (ev_between (by decide +kernel) (by decide +kernel)) (ev_between (by decide +kernel) (by decide +kernel)) (ev_between (by decide +kernel) (by decide +kernel))) (gl_up inv_L_between) rfl rfl rfl hdP_L_between ⟨Nat.le_of_ble_eq_true rfl, Nat.le_of_ble_eq_true rfl⟩ rfl hl.1 rfl (by decide) dL_fractions_187 ⟨Nat.le_of_ble_eq_true rfl, Nat.le_of_ble_eq_true rfl⟩ rfl rfl (fun f H locs hX hI => ?_)
  refine lv_if_eq (tgt := 365) C.x C.b dL_fractions_190 (by decide) (fun q9 => absurd q9 (by decide)) (fun _ => ?_)
  refine lv_aload_n C.x C.b dL_fractions_193 rfl (lv_at hl 0 rfl) ?_
  refine lv_iconst (v := (nI 0)) C.x C.b dL_fractions_194 (by decide) ?_
  refine lv_iconst (v := (nI 1)) C.x C.b dL_fractions_195 (by decide) ?_
  refine lv_iconst (v := (nI 3)) C.x C.b dL_fractions_196 (by decide) ?_
  refine lv_iconst (v := (nI 1)) C.x C.b dL_fractions_197 (by decide) ?_
  refine lv_lconst (v := 1) C.x C.b dL_fractions_198 (by decide) ?_
  refine lv_lconst (v := 1) C.x C.b dL_fractions_199 (by decide) ?_
  refine k_law (As := [.ref h, .int (nI 0), .int (nI 1), .int (nI 3), .int (nI 1), .long 1, .long 1]) (rest := []) (c2 := 352) (s2 := 3224) (m1 := p0) C hX (pL_between hst hI (nI 0) (nI 1) (nI 3) (nI 1) 1 1 (ev_between (by decide +kernel) (by decide +kernel)) (ev_between (by decide +kernel) (by decide +kernel)) (ev_between (by decide +kernel) (by decide +kernel)) (ev_between (by decide +kernel) (by decide +kernel))) (gl_up inv_L_between) rfl rfl rfl hdP_L_between ⟨Nat.le_of_ble_eq_true rfl, Nat.le_of_ble_eq_true rfl⟩ rfl hl.1 rfl (by decide) dL_fractions_200 ⟨Nat.le_of_ble_eq_true rfl, Nat.le_of_ble_eq_true rfl⟩ rfl rfl (fun f H locs hX hI => ?_)
  refine lv_if_eq (tgt := 365) C.x C.b dL_fractions_203 (by decide) (fun q9 => absurd q9 (by decide)) (fun _ => ?_)
  refine lv_aload_n C.x C.b dL_fractions_206 rfl (lv_at hl 0 rfl) ?_
  refine lv_iconst (v := (-1)) C.x C.b dL_fractions_207 (by decide) ?_
  refine lv_iconst (v := (nI 2)) C.x C.b dL_fractions_208 (by decide) ?_
  refine lv_iconst (v := (nI 1)) C.x C.b dL_fractions_209 (by decide) ?_
  refine lv_iconst (v := (nI 2)) C.x C.b dL_fractions_210 (by decide) ?_
  refine lv_lconst (v := 0) C.x C.b dL_fractions_211 (by decide) ?_
  refine lv_lconst (v := 1) C.x C.b dL_fractions_212 (by decide) ?_
  refine k_law (As := [.ref h, .int (-1), .int (nI 2), .int (nI 1), .int (nI 2), .long 0, .long 1]) (rest := []) (c2 := 432) (s2 := 3864) (m1 := p0) C hX (pL_between hst hI (-1) (nI 2) (nI 1) (nI 2) 0 1 (ev_between (by decide +kernel) (by decide +kernel)) (ev_between (by decide +kernel) (by decide +kernel)) (ev_between (by decide +kernel) (by decide +kernel)) (ev_between (by decide +kernel) (by decide +kernel))) (gl_up inv_L_between) rfl rfl rfl hdP_L_between ⟨Nat.le_of_ble_eq_true rfl, Nat.le_of_ble_eq_true rfl⟩ rfl hl.1 rfl (by decide) dL_fractions_213 ⟨Nat.le_of_ble_eq_true rfl, Nat.le_of_ble_eq_true rfl⟩ rfl rfl (fun f H locs hX hI => ?_)
  refine lv_if_eq (tgt := 365) C.x C.b dL_fractions_216 (by decide) (fun q9 => absurd q9 (by decide)) (fun _ => ?_)
  refine lv_aload_n C.x C.b dL_fractions_219 rfl (lv_at hl 0 rfl) ?_
  refine lv_iconst (v := (nI 5)) C.x C.b dL_fractions_220 (by decide) ?_
  refine lv_bipush (v := (nI 7)) C.x C.b dL_fractions_221 (by decide) ?_
  refine lv_iconst (v := (nI 3)) C.x C.b dL_fractions_223 (by decide) ?_
  refine lv_iconst (v := (nI 4)) C.x C.b dL_fractions_224 (by decide) ?_
  refine lv_ldc2 (v := 8) C.x C.b C.ow (C.ts _ (List.mem_cons_of_mem _ lkC_680)) dL_fractions_225 ?_
  refine lv_ldc2 (v := 11) C.x C.b C.ow (C.ts _ (List.mem_cons_of_mem _ lkC_681)) dL_fractions_228 ?_
  refine k_law (As := [.ref h, .int (nI 5), .int (nI 7), .int (nI 3), .int (nI 4), .long 8, .long 11]) (rest := []) (c2 := 512) (s2 := 4504) (m1 := p0) C hX (pL_between hst hI (nI 5) (nI 7) (nI 3) (nI 4) 8 11 (ev_between (by decide +kernel) (by decide +kernel)) (ev_between (by decide +kernel) (by decide +kernel)) (ev_between (by decide +kernel) (by decide +kernel)) (ev_between (by decide +kernel) (by decide +kernel))) (gl_up inv_L_between) rfl rfl rfl hdP_L_between ⟨Nat.le_of_ble_eq_true rfl, Nat.le_of_ble_eq_true rfl⟩ rfl hl.1 rfl (by decide) dL_fractions_231 ⟨Nat.le_of_ble_eq_true rfl, Nat.le_of_ble_eq_true rfl⟩ rfl rfl (fun f H locs hX hI => ?_)
  refine lv_if_eq (tgt := 365) C.x C.b dL_fractions_234 (by decide) (fun q9 => absurd q9 (by decide)) (fun _ => ?_)
  refine lv_aload_n C.x C.b dL_fractions_237 rfl (lv_at hl 0 rfl) ?_
  refine lv_bipush (v := (-7)) C.x C.b dL_fractions_238 (by decide) ?_
  refine lv_iconst (v := (nI 2)) C.x C.b dL_fractions_240 (by decide) ?_
  refine lv_bipush (v := (-5)) C.x C.b dL_fractions_241 (by decide) ?_
  refine lv_iconst (v := (nI 2)) C.x C.b dL_fractions_243 (by decide) ?_
  refine lv_ldc2 (v := (-3)) C.x C.b C.ow (C.ts _ (List.mem_cons_of_mem _ lkC_682)) dL_fractions_244 ?_
  refine lv_lconst (v := 1) C.x C.b dL_fractions_247 (by decide) ?_
  refine k_law (As := [.ref h, .int (-7), .int (nI 2), .int (-5), .int (nI 2), .long (-3), .long 1]) (rest := []) (c2 := 592) (s2 := 5144) (m1 := p0) C hX (pL_between hst hI (-7) (nI 2) (-5) (nI 2) (-3) 1 (ev_between (by decide +kernel) (by decide +kernel)) (ev_between (by decide +kernel) (by decide +kernel)) (ev_between (by decide +kernel) (by decide +kernel)) (ev_between (by decide +kernel) (by decide +kernel))) (gl_up inv_L_between) rfl rfl rfl hdP_L_between ⟨Nat.le_of_ble_eq_true rfl, Nat.le_of_ble_eq_true rfl⟩ rfl hl.1 rfl (by decide) dL_fractions_248 ⟨Nat.le_of_ble_eq_true rfl, Nat.le_of_ble_eq_true rfl⟩ rfl rfl (fun f H locs hX hI => ?_)
  refine lv_if_eq (tgt := 365) C.x C.b dL_fractions_251 (by decide) (fun q9 => absurd q9 (by decide)) (fun _ => ?_)
  refine lv_aload_n C.x C.b dL_fractions_254 rfl (lv_at hl 0 rfl) ?_
  refine lv_ldc (v := (nI 999999999)) C.x C.b C.ow (C.ts _ (List.mem_cons_of_mem _ lkC_678)) dL_fractions_255 ?_
  refine lv_ldc (v := (nI 1000000000)) C.x C.b C.ow (C.ts _ (List.mem_cons_of_mem _ lkC_641)) dL_fractions_257 ?_
  refine lv_iconst (v := (nI 1)) C.x C.b dL_fractions_259 (by decide) ?_
  refine lv_iconst (v := (nI 1)) C.x C.b dL_fractions_260 (by decide) ?_
  refine lv_ldc2 (v := 1000000000) C.x C.b C.ow (C.ts _ (List.mem_cons_of_mem _ lkC_683)) dL_fractions_261 ?_
  refine lv_ldc2 (v := 1000000001) C.x C.b C.ow (C.ts _ (List.mem_cons_of_mem _ lkC_684)) dL_fractions_264 ?_
  refine k_law (As := [.ref h, .int (nI 999999999), .int (nI 1000000000), .int (nI 1), .int (nI 1), .long 1000000000, .long 1000000001]) (rest := []) (c2 := 672) (s2 := 5784) (m1 := p0) C hX (pL_between hst hI (nI 999999999) (nI 1000000000) (nI 1) (nI 1) 1000000000 1000000001 (ev_between (by decide +kernel) (by decide +kernel)) (ev_between (by decide +kernel) (by decide +kernel)) (ev_between (by decide +kernel) (by decide +kernel)) (ev_between (by decide +kernel) (by decide +kernel))) (gl_up inv_L_between) rfl rfl rfl hdP_L_between ⟨Nat.le_of_ble_eq_true rfl, Nat.le_of_ble_eq_true rfl⟩ rfl hl.1 rfl (by decide) dL_fractions_267 ⟨Nat.le_of_ble_eq_true rfl, Nat.le_of_ble_eq_true rfl⟩ rfl rfl (fun f H locs hX hI => ?_)
  refine lv_if_eq (tgt := 365) C.x C.b dL_fractions_270 (by decide) (fun q9 => absurd q9 (by decide)) (fun _ => ?_)
  refine lv_aload_n C.x C.b dL_fractions_273 rfl (lv_at hl 0 rfl) ?_
  refine lv_iconst (v := (nI 0)) C.x C.b dL_fractions_274 (by decide) ?_
  refine lv_iconst (v := (nI 1)) C.x C.b dL_fractions_275 (by decide) ?_
  refine lv_iconst (v := (nI 1)) C.x C.b dL_fractions_276 (by decide) ?_
  refine lv_ldc (v := (nI 1000000000)) C.x C.b C.ow (C.ts _ (List.mem_cons_of_mem _ lkC_641)) dL_fractions_277 ?_
  refine lv_lconst (v := 1) C.x C.b dL_fractions_279 (by decide) ?_
  refine lv_ldc2 (v := 1000000001) C.x C.b C.ow (C.ts _ (List.mem_cons_of_mem _ lkC_684)) dL_fractions_280 ?_
  refine k_law (As := [.ref h, .int (nI 0), .int (nI 1), .int (nI 1), .int (nI 1000000000), .long 1, .long 1000000001]) (rest := []) (c2 := 752) (s2 := 6424) (m1 := p0) C hX (pL_between hst hI (nI 0) (nI 1) (nI 1) (nI 1000000000) 1 1000000001 (ev_between (by decide +kernel) (by decide +kernel)) (ev_between (by decide +kernel) (by decide +kernel)) (ev_between (by decide +kernel) (by decide +kernel)) (ev_between (by decide +kernel) (by decide +kernel))) (gl_up inv_L_between) rfl rfl rfl hdP_L_between ⟨Nat.le_of_ble_eq_true rfl, Nat.le_of_ble_eq_true rfl⟩ rfl hl.1 rfl (by decide) dL_fractions_283 ⟨Nat.le_of_ble_eq_true rfl, Nat.le_of_ble_eq_true rfl⟩ rfl rfl (fun f H locs hX hI => ?_)
  refine lv_if_eq (tgt := 365) C.x C.b dL_fractions_286 (by decide) (fun q9 => absurd q9 (by decide)) (fun _ => ?_)
  refine lv_aload_n C.x C.b dL_fractions_289 rfl (lv_at hl 0 rfl) ?_
  refine lv_ldc (v := (-1000000000)) C.x C.b C.ow (C.ts _ (List.mem_cons_of_mem _ lkC_640)) dL_fractions_290 ?_
  refine lv_iconst (v := (nI 1)) C.x C.b dL_fractions_292 (by decide) ?_
  refine lv_ldc (v := (nI 1000000000)) C.x C.b C.ow (C.ts _ (List.mem_cons_of_mem _ lkC_641)) dL_fractions_293 ?_
  refine lv_iconst (v := (nI 1)) C.x C.b dL_fractions_295 (by decide) ?_
  refine lv_ldc2 (v := (-999999999)) C.x C.b C.ow (C.ts _ (List.mem_cons_of_mem _ lkC_685)) dL_fractions_296 ?_
  refine lv_lconst (v := 1) C.x C.b dL_fractions_299 (by decide) ?_
  refine k_law (As := [.ref h, .int (-1000000000), .int (nI 1), .int (nI 1000000000), .int (nI 1), .long (-999999999), .long 1]) (rest := []) (c2 := 832) (s2 := 7064) (m1 := p0) C hX (pL_between hst hI (-1000000000) (nI 1) (nI 1000000000) (nI 1) (-999999999) 1 (ev_between (by decide +kernel) (by decide +kernel)) (ev_between (by decide +kernel) (by decide +kernel)) (ev_between (by decide +kernel) (by decide +kernel)) (ev_between (by decide +kernel) (by decide +kernel))) (gl_up inv_L_between) rfl rfl rfl hdP_L_between ⟨Nat.le_of_ble_eq_true rfl, Nat.le_of_ble_eq_true rfl⟩ rfl hl.1 rfl (by decide) dL_fractions_300 ⟨Nat.le_of_ble_eq_true rfl, Nat.le_of_ble_eq_true rfl⟩ rfl rfl (fun f H locs hX hI => ?_)
  refine lv_if_eq (tgt := 365) C.x C.b dL_fractions_303 (by decide) (fun q9 => absurd q9 (by decide)) (fun _ => ?_)
  refine lv_aload_n C.x C.b dL_fractions_306 rfl (lv_at hl 0 rfl) ?_
  refine lv_iconst (v := (-1)) C.x C.b dL_fractions_307 (by decide) ?_
  refine lv_iconst (v := (nI 3)) C.x C.b dL_fractions_308 (by decide) ?_
  refine lv_iconst (v := (-1)) C.x C.b dL_fractions_309 (by decide) ?_
  refine lv_iconst (v := (nI 2)) C.x C.b dL_fractions_310 (by decide) ?_
  refine lv_ldc2 (v := (-2)) C.x C.b C.ow (C.ts _ (List.mem_cons_of_mem _ lkC_664)) dL_fractions_311 ?_
  refine lv_ldc2 (v := 5) C.x C.b C.ow (C.ts _ (List.mem_cons_of_mem _ lkC_679)) dL_fractions_314 ?_
  refine k_law (As := [.ref h, .int (-1), .int (nI 3), .int (-1), .int (nI 2), .long (-2), .long 5]) (rest := []) (c2 := 912) (s2 := 7704) (m1 := p0) C hX (pL_between hst hI (-1) (nI 3) (-1) (nI 2) (-2) 5 (ev_between (by decide +kernel) (by decide +kernel)) (ev_between (by decide +kernel) (by decide +kernel)) (ev_between (by decide +kernel) (by decide +kernel)) (ev_between (by decide +kernel) (by decide +kernel))) (gl_up inv_L_between) rfl rfl rfl hdP_L_between ⟨Nat.le_of_ble_eq_true rfl, Nat.le_of_ble_eq_true rfl⟩ rfl hl.1 rfl (by decide) dL_fractions_317 ⟨Nat.le_of_ble_eq_true rfl, Nat.le_of_ble_eq_true rfl⟩ rfl rfl (fun f H locs hX hI => ?_)
  refine lv_if_eq (tgt := 365) C.x C.b dL_fractions_320 (by decide) (fun q9 => absurd q9 (by decide)) (fun _ => ?_)
  refine lv_aload_n C.x C.b dL_fractions_323 rfl (lv_at hl 0 rfl) ?_
  refine lv_bipush (v := (nI 7)) C.x C.b dL_fractions_324 (by decide) ?_
  refine lv_bipush (v := (nI 10)) C.x C.b dL_fractions_326 (by decide) ?_
  refine lv_iconst (v := (nI 5)) C.x C.b dL_fractions_328 (by decide) ?_
  refine lv_bipush (v := (nI 7)) C.x C.b dL_fractions_329 (by decide) ?_
  refine lv_ldc2 (v := 12) C.x C.b C.ow (C.ts _ (List.mem_cons_of_mem _ lkC_686)) dL_fractions_331 ?_
  refine lv_ldc2 (v := 17) C.x C.b C.ow (C.ts _ (List.mem_cons_of_mem _ lkC_687)) dL_fractions_334 ?_
  refine k_law (As := [.ref h, .int (nI 7), .int (nI 10), .int (nI 5), .int (nI 7), .long 12, .long 17]) (rest := []) (c2 := 992) (s2 := 8344) (m1 := p0) C hX (pL_between hst hI (nI 7) (nI 10) (nI 5) (nI 7) 12 17 (ev_between (by decide +kernel) (by decide +kernel)) (ev_between (by decide +kernel) (by decide +kernel)) (ev_between (by decide +kernel) (by decide +kernel)) (ev_between (by decide +kernel) (by decide +kernel))) (gl_up inv_L_between) rfl rfl rfl hdP_L_between ⟨Nat.le_of_ble_eq_true rfl, Nat.le_of_ble_eq_true rfl⟩ rfl hl.1 rfl (by decide) dL_fractions_337 ⟨Nat.le_of_ble_eq_true rfl, Nat.le_of_ble_eq_true rfl⟩ rfl rfl (fun f H locs hX hI => ?_)
  refine lv_if_eq (tgt := 365) C.x C.b dL_fractions_340 (by decide) (fun q9 => absurd q9 (by decide)) (fun _ => ?_)
  refine lv_aload_n C.x C.b dL_fractions_343 rfl (lv_at hl 0 rfl) ?_
  refine lv_iconst (v := (-1)) C.x C.b dL_fractions_344 (by decide) ?_
  refine lv_ldc (v := (nI 1000000000)) C.x C.b C.ow (C.ts _ (List.mem_cons_of_mem _ lkC_641)) dL_fractions_345 ?_
  refine lv_iconst (v := (nI 0)) C.x C.b dL_fractions_347 (by decide) ?_
  refine lv_iconst (v := (nI 1)) C.x C.b dL_fractions_348 (by decide) ?_
  refine lv_ldc2 (v := (-1)) C.x C.b C.ow (C.ts _ (List.mem_cons_of_mem _ lkC_653)) dL_fractions_349 ?_
  refine lv_ldc2 (v := 1000000001) C.x C.b C.ow (C.ts _ (List.mem_cons_of_mem _ lkC_684)) dL_fractions_352 ?_
  refine k_law (As := [.ref h, .int (-1), .int (nI 1000000000), .int (nI 0), .int (nI 1), .long (-1), .long 1000000001]) (rest := []) (c2 := 1072) (s2 := 8984) (m1 := p0) C hX (pL_between hst hI (-1) (nI 1000000000) (nI 0) (nI 1) (-1) 1000000001 (ev_between (by decide +kernel) (by decide +kernel)) (ev_between (by decide +kernel) (by decide +kernel)) (ev_between (by decide +kernel) (by decide +kernel)) (ev_between (by decide +kernel) (by decide +kernel))) (gl_up inv_L_between) rfl rfl rfl hdP_L_between ⟨Nat.le_of_ble_eq_true rfl, Nat.le_of_ble_eq_true rfl⟩ rfl hl.1 rfl (by decide) dL_fractions_355 ⟨Nat.le_of_ble_eq_true rfl, Nat.le_of_ble_eq_true rfl⟩ rfl rfl (fun f H locs hX hI => ?_)
  refine lv_if_eq (tgt := 365) C.x C.b dL_fractions_358 (by decide) (fun q9 => absurd q9 (by decide)) (fun _ => ?_)
  refine lv_iconst (v := (nI 1)) C.x C.b dL_fractions_361 (by decide) ?_
  refine lv_goto (tgt := 366) C.x C.b dL_fractions_362 (by decide) ?_
  exact k_zret C hX hr hlocks hQ (Nat.le_of_ble_eq_true rfl) (Nat.le_of_ble_eq_true rfl) (Or.inr rfl) ⟨rfl, trivial⟩ dL_fractions_366
