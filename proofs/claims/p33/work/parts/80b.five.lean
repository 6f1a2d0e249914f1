def hS_five_1 : pSt := pMk 4 4 1 0 0 2 0 mF0 (upd (fun _ => 0) 0 (-24)) (upd (fun _ => 0) 0 (nI 0)) (upd (fun _ => 0) 0 (nI 24)) (fun _ => 0) (fun _ => 0) (fun _ => 0) mW0 (fun _ => 0) (fun _ => 0)
def hS_five_2 : pSt := pMk 4 4 2 0 0 2 0 mF0 (upd hS_five_1.dx 1 (nI 24)) (upd hS_five_1.dy 1 (nI 0)) (upd hS_five_1.dr 1 (nI 24)) (fun _ => 0) (fun _ => 0) (fun _ => 0) mW0 (fun _ => 0) (fun _ => 0)
def hS_five_3 : pSt := pMk 4 4 3 0 0 2 0 mF0 (upd hS_five_2.dx 2 (nI 0)) (upd hS_five_2.dy 2 (nI 10)) (upd hS_five_2.dr 2 (nI 2)) (fun _ => 0) (fun _ => 0) (fun _ => 0) mW0 (fun _ => 0) (fun _ => 0)
def hS_five_4 : pSt := pMk 4 4 4 0 0 2 0 mF0 (upd hS_five_3.dx 3 (nI 0)) (upd hS_five_3.dy 3 (nI 18)) (upd hS_five_3.dr 3 (nI 6)) (fun _ => 0) (fun _ => 0) (fun _ => 0) mW0 (fun _ => 0) (fun _ => 0)
def hS_five_5 : pSt := pMk 4 4 5 0 0 2 0 mF0 (upd hS_five_4.dx 4 (nI 0)) (upd hS_five_4.dy 4 (nI 7)) (upd hS_five_4.dr 4 (nI 1)) (fun _ => 0) (fun _ => 0) (fun _ => 0) mW0 (fun _ => 0) (fun _ => 0)
def hS_five_6 : pSt := pMk 5 6 5 0 0 2 0 (nPutN (nPutN (nPutN mF0 0 0 1 4) 4 1 2 4) 5 2 0 4) hS_five_5.dx hS_five_5.dy hS_five_5.dr (fun _ => 0) (fun _ => 0) (fun _ => 0) mW0 (fun _ => 0) (fun _ => 0)
def hS_five_7 : pSt := pMk 5 6 5 0 0 2 0 (nPutN (nPutN hS_five_6.fa 0 0 3 4) 1 3 1 4) hS_five_5.dx hS_five_5.dy hS_five_5.dr (fun _ => 0) (fun _ => 0) (fun _ => 0) mW0 (fun _ => 0) (fun _ => 0)
def hS_five_8 : pSt := pMk 5 6 5 0 0 2 0 (nPutN (nPutN hS_five_7.fa 0 3 1 0) 1 1 4 0) hS_five_5.dx hS_five_5.dy hS_five_5.dr (fun _ => 0) (fun _ => 0) (fun _ => 0) mW0 (fun _ => 0) (fun _ => 0)
def hS_five_9 : pSt := pMk 5 6 5 0 0 2 0 hS_five_8.fa (upd hS_five_5.dx 4 (nI 0)) (upd hS_five_5.dy 4 (-7)) (upd hS_five_5.dr 4 (nI 1)) (fun _ => 0) (fun _ => 0) (fun _ => 0) mW0 (fun _ => 0) (fun _ => 0)
set_option maxHeartbeats 16000000 in
set_option maxRecDepth 100000 in
theorem pL_five {l : Launch} (hst : l.stackTraces = false) {G : kG} {B0 : Nat} {f : kH} : Met l yL_five wsP_five rmH (kP G B0 f []) (kQi G B0 (fun r f1 => r = nI 1 ∧ True)) 9000 72000 (kAb B0) := by
  refine kMet (cc := cL_five) (maxL := 1) (ret := (some .boolean)) (by decide) rfl (Nat.le_of_ble_eq_true rfl) ?_
  intro p e s mi args below meth c H locs Q ls C hX hl hr hlocks hnm hQ
  refine k_new (X := RX8) (T := TX8) (N := 7) (ci := 8) (fs := [.null, .null, .null, .null, .null, .null, .null]) C hX (fun w9 h9 => List.mem_cons_of_mem _ (inlX8 w9 h9)) tyX8_ok (fun w9 h9 => List.mem_cons_of_mem _ (in_new w9 h9)) rfl (by decide) (Nat.le_of_ble_eq_true rfl) (Nat.le_of_ble_eq_true rfl) dL_five_0 (fun h H hn hX => ?_)
  refine lv_dup C.x C.b dL_five_3 rfl ?_
  have h0 : kCs (kst f h (.inr (8, [.null, .null, .null, .null, .null, .null, .null]))) [(h, .inr (8, [.null, .null, .null, .null, .null, .null, .null]))] := ⟨fun q hq => by rw [List.mem_singleton.mp hq]; exact kst_s _ _ _, by simp⟩
  refine k_callv (va_runI (As := []) (rest := [.ref h]) C.1 (kX8_init l G B0 _ h h0) (cwI 0 C.ts (gl_up inw_X8_init) rfl rfl rfl (C.ts (.initialized RX8) (List.mem_cons_of_mem _ (in_ini _ (by simp)))) (C.ts (.methodLink RL 126 yX8_init) (List.mem_cons_of_mem _ (in_ini _ (by simp)))) (C.ts (.instanceMethod yX8_init) (List.mem_cons_of_mem _ (in_ini _ (by simp)))) rfl hdA_X8_init ⟨Nat.le_of_ble_eq_true rfl, Nat.le_of_ble_eq_true rfl⟩) (k_preS C hX) rfl rfl hl.1 rfl (lv_room (Nat.le_of_ble_eq_true rfl)) dL_five_4 ⟨Nat.le_of_ble_eq_true rfl, Nat.le_of_ble_eq_true rfl⟩) hX (fun f H locs hp hX => ?_)
  obtain ⟨sp, nA, tA, dl, gl, rw9, sA, wA, ml, pp, nn, wL, qm, rm9, h1, -, -⟩ := hp
  have hI : Inv G h f p0 := Inv_start h1
  refine W.widen (k := 24) (n := 600) (by decide) (by decide) ?_
  refine lv_astore_n (lv' := [(0, .ref h)]) C.x C.b dL_five_7 rfl hl (by decide) rfl (fun ls hl => ?_)
  refine lv_aload_n C.x C.b dL_five_8 rfl (lv_at hl 0 rfl) ?_
  refine lv_bipush (v := (-24)) C.x C.b dL_five_9 (by decide) ?_
  refine lv_iconst (v := (nI 0)) C.x C.b dL_five_11 (by decide) ?_
  refine lv_bipush (v := (nI 24)) C.x C.b dL_five_12 (by decide) ?_
  refine k_cI (As := [.int (-24), .int (nI 0), .int (nI 24)]) (rest := []) (c2 := 32) (s2 := 664) (v := (nI 0)) (m1 := hS_five_1) C hX (iop_disk hst hI (-24) (nI 0) (nI 24)) (ev_disk 0 (by decide +kernel) (by decide) rfl rfl) hI.hd (gl_up inv_X8_disk) rfl ⟨rfl, hdA_X8_disk⟩ (by decide) rfl hl.1 rfl (by decide) dL_five_14 ⟨Nat.le_of_ble_eq_true rfl, Nat.le_of_ble_eq_true rfl⟩ ⟨Nat.le_of_ble_eq_true rfl, Nat.le_of_ble_eq_true rfl⟩ rfl rfl (fun f H locs hX hI => ?_)
  refine lv_if_ne (tgt := 179) C.x C.b dL_five_17 (by decide) (fun q9 => absurd (by decide) q9) (fun _ => ?_)
  refine lv_aload_n C.x C.b dL_five_20 rfl (lv_at hl 0 rfl) ?_
  refine lv_bipush (v := (nI 24)) C.x C.b dL_five_21 (by decide) ?_
  refine lv_iconst (v := (nI 0)) C.x C.b dL_five_23 (by decide) ?_
  refine lv_bipush (v := (nI 24)) C.x C.b dL_five_24 (by decide) ?_
  refine k_cI (As := [.int (nI 24), .int (nI 0), .int (nI 24)]) (rest := []) (c2 := 40) (s2 := 728) (v := (nI 1)) (m1 := hS_five_2) C hX (iop_disk hst hI (nI 24) (nI 0) (nI 24)) (ev_disk 1 (by decide +kernel) (by decide) rfl rfl) hI.hd (gl_up inv_X8_disk) rfl ⟨rfl, hdA_X8_disk⟩ (by decide) rfl hl.1 rfl (by decide) dL_five_26 ⟨Nat.le_of_ble_eq_true rfl, Nat.le_of_ble_eq_true rfl⟩ ⟨Nat.le_of_ble_eq_true rfl, Nat.le_of_ble_eq_true rfl⟩ rfl rfl (fun f H locs hX hI => ?_)
  refine lv_iconst (v := (nI 1)) C.x C.b dL_five_29 (by decide) ?_
  refine lv_icmp_ne (tgt := 179) C.x C.b dL_five_30 (by decide) (fun q9 => absurd (by decide) q9) (fun _ => ?_)
  refine lv_aload_n C.x C.b dL_five_33 rfl (lv_at hl 0 rfl) ?_
  refine lv_iconst (v := (nI 0)) C.x C.b dL_five_34 (by decide) ?_
  refine lv_bipush (v := (nI 10)) C.x C.b dL_five_35 (by decide) ?_
  refine lv_iconst (v := (nI 2)) C.x C.b dL_five_37 (by decide) ?_
  refine k_cI (As := [.int (nI 0), .int (nI 10), .int (nI 2)]) (rest := []) (c2 := 48) (s2 := 792) (v := (nI 2)) (m1 := hS_five_3) C hX (iop_disk hst hI (nI 0) (nI 10) (nI 2)) (ev_disk 2 (by decide +kernel) (by decide) rfl rfl) hI.hd (gl_up inv_X8_disk) rfl ⟨rfl, hdA_X8_disk⟩ (by decide) rfl hl.1 rfl (by decide) dL_five_38 ⟨Nat.le_of_ble_eq_true rfl, Nat.le_of_ble_eq_true rfl⟩ ⟨Nat.le_of_ble_eq_true rfl, Nat.le_of_ble_eq_true rfl⟩ rfl rfl (fun f H locs hX hI => ?_)
  refine lv_iconst (v := (nI 2)) C.x C.b dL_five_41 (by decide) ?_
  refine lv_icmp_ne (tgt := 179) C.x C.b dL_five_42 (by decide) (fun q9 => absurd (by decide) q9) (fun _ => ?_)
  refine lv_aload_n C.x C.b dL_five_45 rfl (lv_at hl 0 rfl) ?_
  refine lv_iconst (v := (nI 0)) C.x C.b dL_five_46 (by decide) ?_
  refine lv_bipush (v := (nI 18)) C.x C.b dL_five_47 (by decide) ?_
  refine lv_bipush (v := (nI 6)) C.x C.b dL_five_49 (by decide) ?_
  refine k_cI (As := [.int (nI 0), .int (nI 18), .int (nI 6)]) (rest := []) (c2 := 56) (s2 := 856) (v := (nI 3)) (m1 := hS_five_4) C hX (iop_disk hst hI (nI 0) (nI 18) (nI 6)) (ev_disk 3 (by decide +kernel) (by decide) rfl rfl) hI.hd (gl_up inv_X8_disk) rfl ⟨rfl, hdA_X8_disk⟩ (by decide) rfl hl.1 rfl (by decide) dL_five_51 ⟨Nat.le_of_ble_eq_true rfl, Nat.le_of_ble_eq_true rfl⟩ ⟨Nat.le_of_ble_eq_true rfl, Nat.le_of_ble_eq_true rfl⟩ rfl rfl (fun f H locs hX hI => ?_)
  refine lv_iconst (v := (nI 3)) C.x C.b dL_five_54 (by decide) ?_
  refine lv_icmp_ne (tgt := 179) C.x C.b dL_five_55 (by decide) (fun q9 => absurd (by decide) q9) (fun _ => ?_)
  refine lv_aload_n C.x C.b dL_five_58 rfl (lv_at hl 0 rfl) ?_
  refine k_cI (As := []) (rest := []) (c2 := 64) (s2 := 920) (v := (nI 1)) (m1 := hS_five_4) C hX (iop_draws hst hI) (ev_draws (by decide +kernel)) hI.hd (gl_up inv_X8_draws) rfl ⟨rfl, hdA_X8_draws⟩ (by decide) rfl hl.1 rfl (by decide) dL_five_59 ⟨Nat.le_of_ble_eq_true rfl, Nat.le_of_ble_eq_true rfl⟩ ⟨Nat.le_of_ble_eq_true rfl, Nat.le_of_ble_eq_true rfl⟩ rfl rfl (fun f H locs hX hI => ?_)
  refine lv_if_eq (tgt := 179) C.x C.b dL_five_62 (by decide) (fun q9 => absurd q9 (by decide)) (fun _ => ?_)
  refine lv_aload_n C.x C.b dL_five_65 rfl (lv_at hl 0 rfl) ?_
  refine lv_iconst (v := (nI 0)) C.x C.b dL_five_66 (by decide) ?_
  refine lv_bipush (v := (nI 7)) C.x C.b dL_five_67 (by decide) ?_
  refine lv_iconst (v := (nI 1)) C.x C.b dL_five_69 (by decide) ?_
  refine k_cI (As := [.int (nI 0), .int (nI 7), .int (nI 1)]) (rest := []) (c2 := 72) (s2 := 984) (v := (nI 4)) (m1 := hS_five_5) C hX (iop_disk hst hI (nI 0) (nI 7) (nI 1)) (ev_disk 4 (by decide +kernel) (by decide) rfl rfl) hI.hd (gl_up inv_X8_disk) rfl ⟨rfl, hdA_X8_disk⟩ (by decide) rfl hl.1 rfl (by decide) dL_five_70 ⟨Nat.le_of_ble_eq_true rfl, Nat.le_of_ble_eq_true rfl⟩ ⟨Nat.le_of_ble_eq_true rfl, Nat.le_of_ble_eq_true rfl⟩ rfl rfl (fun f H locs hX hI => ?_)
  refine lv_iconst (v := (nI 4)) C.x C.b dL_five_73 (by decide) ?_
  refine lv_icmp_ne (tgt := 179) C.x C.b dL_five_74 (by decide) (fun q9 => absurd (by decide) q9) (fun _ => ?_)
  refine lv_aload_n C.x C.b dL_five_77 rfl (lv_at hl 0 rfl) ?_
  refine k_cI (As := []) (rest := []) (c2 := 80) (s2 := 1048) (v := (nI 0)) (m1 := hS_five_5) C hX (iop_draws hst hI) (ev_draws (by decide +kernel)) hI.hd (gl_up inv_X8_draws) rfl ⟨rfl, hdA_X8_draws⟩ (by decide) rfl hl.1 rfl (by decide) dL_five_78 ⟨Nat.le_of_ble_eq_true rfl, Nat.le_of_ble_eq_true rfl⟩ ⟨Nat.le_of_ble_eq_true rfl, Nat.le_of_ble_eq_true rfl⟩ rfl rfl (fun f H locs hX hI => ?_)
  refine lv_if_ne (tgt := 179) C.x C.b dL_five_81 (by decide) (fun q9 => absurd (by decide) q9) (fun _ => ?_)
  refine lv_aload_n C.x C.b dL_five_84 rfl (lv_at hl 0 rfl) ?_
  refine lv_iconst (v := (nI 0)) C.x C.b dL_five_85 (by decide) ?_
  refine k_cI (As := [.int (nI 0)]) (rest := []) (c2 := 88) (s2 := 1112) (v := (nI 4)) (m1 := hS_five_6) C hX (iop_split hst hI (nI 0)) (ev_split 0 0 1 2 4 4 (by decide) (by decide) (by decide) rfl rfl (by decide +kernel) (by decide +kernel) (by decide +kernel) rfl) hI.hd (gl_up inv_X8_split) rfl ⟨rfl, hdA_X8_split⟩ (by decide) rfl hl.1 rfl (by decide) dL_five_86 ⟨Nat.le_of_ble_eq_true rfl, Nat.le_of_ble_eq_true rfl⟩ ⟨Nat.le_of_ble_eq_true rfl, Nat.le_of_ble_eq_true rfl⟩ rfl rfl (fun f H locs hX hI => ?_)
  refine lv_iconst (v := (nI 4)) C.x C.b dL_five_89 (by decide) ?_
  refine lv_icmp_ne (tgt := 179) C.x C.b dL_five_90 (by decide) (fun q9 => absurd (by decide) q9) (fun _ => ?_)
  refine lv_aload_n C.x C.b dL_five_93 rfl (lv_at hl 0 rfl) ?_
  refine k_cI (As := []) (rest := []) (c2 := 96) (s2 := 1176) (v := (nI 1)) (m1 := hS_five_6) C hX (iop_draws hst hI) (ev_draws (by decide +kernel)) hI.hd (gl_up inv_X8_draws) rfl ⟨rfl, hdA_X8_draws⟩ (by decide) rfl hl.1 rfl (by decide) dL_five_94 ⟨Nat.le_of_ble_eq_true rfl, Nat.le_of_ble_eq_true rfl⟩ ⟨Nat.le_of_ble_eq_true rfl, Nat.le_of_ble_eq_true rfl⟩ rfl rfl (fun f H locs hX hI => ?_)
  refine lv_if_eq (tgt := 179) C.x C.b dL_five_97 (by decide) (fun q9 => absurd q9 (by decide)) (fun _ => ?_)
  refine lv_aload_n C.x C.b dL_five_100 rfl (lv_at hl 0 rfl) ?_
  refine lv_iconst (v := (nI 0)) C.x C.b dL_five_101 (by decide) ?_
  refine k_cI (As := [.int (nI 0)]) (rest := []) (c2 := 104) (s2 := 1240) (v := (nI 1)) (m1 := hS_five_6) C hX (iop_pairs hst hI (nI 0)) (ev_pairs (by decide +kernel) (by decide +kernel)) hI.hd (gl_up inv_X8_pairs) rfl ⟨rfl, hdA_X8_pairs⟩ (by decide) rfl hl.1 rfl (by decide) dL_five_102 ⟨Nat.le_of_ble_eq_true rfl, Nat.le_of_ble_eq_true rfl⟩ ⟨Nat.le_of_ble_eq_true rfl, Nat.le_of_ble_eq_true rfl⟩ rfl rfl (fun f H locs hX hI => ?_)
  refine lv_iconst (v := (nI 1)) C.x C.b dL_five_105 (by decide) ?_
  refine lv_icmp_ne (tgt := 179) C.x C.b dL_five_106 (by decide) (fun q9 => absurd (by decide) q9) (fun _ => ?_)
  refine lv_aload_n C.x C.b dL_five_109 rfl (lv_at hl 0 rfl) ?_
  refine lv_iconst (v := (nI 1)) C.x C.b dL_five_110 (by decide) ?_
  refine k_cI (As := [.int (nI 1)]) (rest := []) (c2 := 112) (s2 := 1304) (v := (nI 9)) (m1 := hS_five_6) C hX (iop_pairs hst hI (nI 1)) (ev_pairs (by decide +kernel) (by decide +kernel)) hI.hd (gl_up inv_X8_pairs) rfl ⟨rfl, hdA_X8_pairs⟩ (by decide) rfl hl.1 rfl (by decide) dL_five_111 ⟨Nat.le_of_ble_eq_true rfl, Nat.le_of_ble_eq_true rfl⟩ ⟨Nat.le_of_ble_eq_true rfl, Nat.le_of_ble_eq_true rfl⟩ rfl rfl (fun f H locs hX hI => ?_)
  refine lv_bipush (v := (nI 9)) C.x C.b dL_five_114 (by decide) ?_
  refine lv_icmp_ne (tgt := 179) C.x C.b dL_five_116 (by decide) (fun q9 => absurd (by decide) q9) (fun _ => ?_)
  refine lv_aload_n C.x C.b dL_five_119 rfl (lv_at hl 0 rfl) ?_
  refine lv_iconst (v := (nI 0)) C.x C.b dL_five_120 (by decide) ?_
  refine lv_iconst (v := (nI 1)) C.x C.b dL_five_121 (by decide) ?_
  refine k_cI (As := [.int (nI 0), .int (nI 1)]) (rest := []) (c2 := 120) (s2 := 1368) (v := (nI 304)) (m1 := hS_five_7) C hX (iop_flip hst hI (nI 0) (nI 1)) (ev_flip 0 1 4 3 0 1 304 (by decide +kernel) (by decide +kernel) (by decide) (by decide) (by decide +kernel) (by decide +kernel) (by decide +kernel) (by decide +kernel) (by decide) rfl) hI.hd (gl_up inv_X8_flip) rfl ⟨rfl, hdA_X8_flip⟩ (by decide) rfl hl.1 rfl (by decide) dL_five_122 ⟨Nat.le_of_ble_eq_true rfl, Nat.le_of_ble_eq_true rfl⟩ ⟨Nat.le_of_ble_eq_true rfl, Nat.le_of_ble_eq_true rfl⟩ rfl rfl (fun f H locs hX hI => ?_)
  refine lv_sipush (v := (nI 304)) C.x C.b dL_five_125 (by decide) ?_
  refine lv_icmp_ne (tgt := 179) C.x C.b dL_five_128 (by decide) (fun q9 => absurd (by decide) q9) (fun _ => ?_)
  refine lv_aload_n C.x C.b dL_five_131 rfl (lv_at hl 0 rfl) ?_
  refine k_cI (As := []) (rest := []) (c2 := 128) (s2 := 1432) (v := (nI 0)) (m1 := hS_five_7) C hX (iop_draws hst hI) (ev_draws (by decide +kernel)) hI.hd (gl_up inv_X8_draws) rfl ⟨rfl, hdA_X8_draws⟩ (by decide) rfl hl.1 rfl (by decide) dL_five_132 ⟨Nat.le_of_ble_eq_true rfl, Nat.le_of_ble_eq_true rfl⟩ ⟨Nat.le_of_ble_eq_true rfl, Nat.le_of_ble_eq_true rfl⟩ rfl rfl (fun f H locs hX hI => ?_)
  refine lv_if_ne (tgt := 179) C.x C.b dL_five_135 (by decide) (fun q9 => absurd (by decide) q9) (fun _ => ?_)
  refine lv_aload_n C.x C.b dL_five_138 rfl (lv_at hl 0 rfl) ?_
  refine lv_iconst (v := (nI 3)) C.x C.b dL_five_139 (by decide) ?_
  refine lv_iconst (v := (nI 4)) C.x C.b dL_five_140 (by decide) ?_
  refine k_cI (As := [.int (nI 3), .int (nI 4)]) (rest := []) (c2 := 136) (s2 := 1496) (v := (nI 1)) (m1 := hS_five_8) C hX (iop_flip hst hI (nI 3) (nI 4)) (ev_flip 3 4 0 1 0 1 1 (by decide +kernel) (by decide +kernel) (by decide) (by decide) (by decide +kernel) (by decide +kernel) (by decide +kernel) (by decide +kernel) (by decide) rfl) hI.hd (gl_up inv_X8_flip) rfl ⟨rfl, hdA_X8_flip⟩ (by decide) rfl hl.1 rfl (by decide) dL_five_141 ⟨Nat.le_of_ble_eq_true rfl, Nat.le_of_ble_eq_true rfl⟩ ⟨Nat.le_of_ble_eq_true rfl, Nat.le_of_ble_eq_true rfl⟩ rfl rfl (fun f H locs hX hI => ?_)
  refine lv_iconst (v := (nI 1)) C.x C.b dL_five_144 (by decide) ?_
  refine lv_icmp_ne (tgt := 179) C.x C.b dL_five_145 (by decide) (fun q9 => absurd (by decide) q9) (fun _ => ?_)
  refine lv_aload_n C.x C.b dL_five_148 rfl (lv_at hl 0 rfl) ?_
  refine k_cI (As := []) (rest := []) (c2 := 144) (s2 := 1560) (v := (nI 1)) (m1 := hS_five_8) C hX (iop_draws hst hI) (ev_draws (by decide +kernel)) hI.hd (gl_up inv_X8_draws) rfl ⟨rfl, hdA_X8_draws⟩ (by decide) rfl hl.1 rfl (by decide) dL_five_149 ⟨Nat.le_of_ble_eq_true rfl, Nat.le_of_ble_eq_true rfl⟩ ⟨Nat.le_of_ble_eq_true rfl, Nat.le_of_ble_eq_true rfl⟩ rfl rfl (fun f H locs hX hI => ?_)
  refine lv_if_eq (tgt := 179) C.x C.b dL_five_152 (by decide) (fun q9 => absurd q9 (by decide)) (fun _ => ?_)
  refine lv_aload_n C.x C.b dL_five_155 rfl (lv_at hl 0 rfl) ?_
  refine lv_iconst (v := (nI 4)) C.x C.b dL_five_156 (by decide) ?_
  refine lv_iconst (v := (nI 0)) C.x C.b dL_five_157 (by decide) ?_
  refine lv_bipush (v := (-7)) C.x C.b dL_five_158 (by decide) ?_
  refine lv_iconst (v := (nI 1)) C.x C.b dL_five_160 (by decide) ?_
  refine k_cI (As := [.int (nI 4), .int (nI 0), .int (-7), .int (nI 1)]) (rest := []) (c2 := 152) (s2 := 1624) (v := (nI 1)) (m1 := hS_five_9) C hX (iop_move hst hI (nI 4) (nI 0) (-7) (nI 1)) (ev_move 4 (by decide +kernel) (by decide) (by decide +kernel) (by decide +kernel) rfl) hI.hd (gl_up inv_X8_move) rfl ⟨rfl, hdA_X8_move⟩ (by decide) rfl hl.1 rfl (by decide) dL_five_161 ⟨Nat.le_of_ble_eq_true rfl, Nat.le_of_ble_eq_true rfl⟩ ⟨Nat.le_of_ble_eq_true rfl, Nat.le_of_ble_eq_true rfl⟩ rfl rfl (fun f H locs hX hI => ?_)
  refine lv_iconst (v := (nI 1)) C.x C.b dL_five_164 (by decide) ?_
  refine lv_icmp_ne (tgt := 179) C.x C.b dL_five_165 (by decide) (fun q9 => absurd (by decide) q9) (fun _ => ?_)
  refine lv_aload_n C.x C.b dL_five_168 rfl (lv_at hl 0 rfl) ?_
  refine k_cI (As := []) (rest := []) (c2 := 160) (s2 := 1688) (v := (nI 0)) (m1 := hS_five_9) C hX (iop_draws hst hI) (ev_draws (by decide +kernel)) hI.hd (gl_up inv_X8_draws) rfl ⟨rfl, hdA_X8_draws⟩ (by decide) rfl hl.1 rfl (by decide) dL_five_169 ⟨Nat.le_of_ble_eq_true rfl, Nat.le_of_ble_eq_true rfl⟩ ⟨Nat.le_of_ble_eq_true rfl, Nat.le_of_ble_eq_true rfl⟩ rfl rfl (fun f H locs hX hI => ?_)
  refine lv_if_ne (tgt := 179) C.x C.b dL_five_172 (by decide) (fun q9 => absurd (by decide) q9) (fun _ => ?_)
  refine lv_iconst (v := (nI 1)) C.x C.b dL_five_175 (by decide) ?_
  refine lv_goto (tgt := 180) C.x C.b dL_five_176 (by decide) ?_
  exact k_zret C hX hr hlocks hQ (Nat.le_of_ble_eq_true rfl) (Nat.le_of_ble_eq_true rfl) (Or.inr rfl) ⟨rfl, trivial⟩ dL_five_180
