def hS_disks_1 : pSt := pMk 4 4 1 0 0 2 0 mF0 (upd (fun _ => 0) 0 (-15)) (upd (fun _ => 0) 0 (nI 0)) (upd (fun _ => 0) 0 (nI 15)) (fun _ => 0) (fun _ => 0) (fun _ => 0) mW0 (fun _ => 0) (fun _ => 0)
def hS_disks_2 : pSt := pMk 4 4 2 0 0 2 0 mF0 (upd hS_disks_1.dx 1 (nI 15)) (upd hS_disks_1.dy 1 (nI 0)) (upd hS_disks_1.dr 1 (nI 15)) (fun _ => 0) (fun _ => 0) (fun _ => 0) mW0 (fun _ => 0) (fun _ => 0)
def hS_disks_3 : pSt := pMk 4 4 3 0 0 2 0 mF0 (upd hS_disks_2.dx 2 (nI 0)) (upd hS_disks_2.dy 2 (nI 20)) (upd hS_disks_2.dr 2 (nI 10)) (fun _ => 0) (fun _ => 0) (fun _ => 0) mW0 (fun _ => 0) (fun _ => 0)
def hS_disks_4 : pSt := pMk 4 4 4 0 0 2 0 mF0 (upd hS_disks_3.dx 3 (nI 0)) (upd hS_disks_3.dy 3 (nI 8)) (upd hS_disks_3.dr 3 (nI 2)) (fun _ => 0) (fun _ => 0) (fun _ => 0) mW0 (fun _ => 0) (fun _ => 0)
def hS_disks_5 : pSt := pMk 4 4 4 0 0 2 0 mF0 (upd hS_disks_4.dx 3 (nI 0)) (upd hS_disks_4.dy 3 (nI 9)) (upd hS_disks_4.dr 3 (nI 2)) (fun _ => 0) (fun _ => 0) (fun _ => 0) mW0 (fun _ => 0) (fun _ => 0)
def hS_disks_6 : pSt := pMk 4 4 4 0 0 2 0 mF0 (upd hS_disks_5.dx 3 (nI 0)) (upd hS_disks_5.dy 3 (nI 8)) (upd hS_disks_5.dr 3 (nI 2)) (fun _ => 0) (fun _ => 0) (fun _ => 0) mW0 (fun _ => 0) (fun _ => 0)
def hS_disks_7 : pSt := pMk 5 6 4 0 0 2 0 (nPutN (nPutN (nPutN mF0 0 0 1 4) 4 1 2 4) 5 2 0 4) hS_disks_6.dx hS_disks_6.dy hS_disks_6.dr (fun _ => 0) (fun _ => 0) (fun _ => 0) mW0 (fun _ => 0) (fun _ => 0)
def hS_disks_8 : pSt := pMk 5 6 5 0 0 2 0 hS_disks_7.fa (upd hS_disks_6.dx 4 (nI 0)) (upd hS_disks_6.dy 4 (nI 100)) (upd hS_disks_6.dr 4 (nI 1)) (fun _ => 0) (fun _ => 0) (fun _ => 0) mW0 (fun _ => 0) (fun _ => 0)
def hS_disks_9 : pSt := pMk 5 6 5 0 0 2 0 hS_disks_7.fa (upd hS_disks_8.dx 4 (-1000000000)) (upd hS_disks_8.dy 4 (-1000000000)) (upd hS_disks_8.dr 4 (nI 1)) (fun _ => 0) (fun _ => 0) (fun _ => 0) mW0 (fun _ => 0) (fun _ => 0)
def hS_disks_10 : pSt := pMk 5 6 6 0 0 2 0 hS_disks_7.fa (upd hS_disks_9.dx 5 (nI 1000000000)) (upd hS_disks_9.dy 5 (nI 1000000000)) (upd hS_disks_9.dr 5 (nI 1000000000)) (fun _ => 0) (fun _ => 0) (fun _ => 0) mW0 (fun _ => 0) (fun _ => 0)
def hS_disks_11 : pSt := pMk 5 6 6 0 0 2 0 hS_disks_7.fa (upd hS_disks_10.dx 4 (-1000000000)) (upd hS_disks_10.dy 4 (nI 1000000000)) (upd hS_disks_10.dr 4 (nI 1000000000)) (fun _ => 0) (fun _ => 0) (fun _ => 0) mW0 (fun _ => 0) (fun _ => 0)
def hS_disks_12 : pSt := pMk 5 6 6 0 0 2 0 hS_disks_7.fa (upd hS_disks_11.dx 4 (-999999999)) (upd hS_disks_11.dy 4 (nI 1000000000)) (upd hS_disks_11.dr 4 (nI 1000000000)) (fun _ => 0) (fun _ => 0) (fun _ => 0) mW0 (fun _ => 0) (fun _ => 0)
def hS_disks_13 : pSt := pMk 5 6 7 0 0 2 0 hS_disks_7.fa (upd hS_disks_12.dx 6 (nI 6)) (upd hS_disks_12.dy 6 (-6)) (upd hS_disks_12.dr 6 (nI 1)) (fun _ => 0) (fun _ => 0) (fun _ => 0) mW0 (fun _ => 0) (fun _ => 0)
def hS_disks_14 : pSt := pMk 5 6 8 0 0 2 0 hS_disks_7.fa (upd hS_disks_13.dx 7 (nI 7)) (upd hS_disks_13.dy 7 (-7)) (upd hS_disks_13.dr 7 (nI 1)) (fun _ => 0) (fun _ => 0) (fun _ => 0) mW0 (fun _ => 0) (fun _ => 0)
def hS_disks_15 : pSt := pMk 5 6 9 0 0 2 0 hS_disks_7.fa (upd hS_disks_14.dx 8 (nI 8)) (upd hS_disks_14.dy 8 (-8)) (upd hS_disks_14.dr 8 (nI 1)) (fun _ => 0) (fun _ => 0) (fun _ => 0) mW0 (fun _ => 0) (fun _ => 0)
def hS_disks_16 : pSt := pMk 5 6 10 0 0 2 0 hS_disks_7.fa (upd hS_disks_15.dx 9 (nI 9)) (upd hS_disks_15.dy 9 (-9)) (upd hS_disks_15.dr 9 (nI 1)) (fun _ => 0) (fun _ => 0) (fun _ => 0) mW0 (fun _ => 0) (fun _ => 0)
def hS_disks_17 : pSt := pMk 5 6 11 0 0 2 0 hS_disks_7.fa (upd hS_disks_16.dx 10 (nI 10)) (upd hS_disks_16.dy 10 (-10)) (upd hS_disks_16.dr 10 (nI 1)) (fun _ => 0) (fun _ => 0) (fun _ => 0) mW0 (fun _ => 0) (fun _ => 0)
def hS_disks_18 : pSt := pMk 5 6 12 0 0 2 0 hS_disks_7.fa (upd hS_disks_17.dx 11 (nI 11)) (upd hS_disks_17.dy 11 (-11)) (upd hS_disks_17.dr 11 (nI 1)) (fun _ => 0) (fun _ => 0) (fun _ => 0) mW0 (fun _ => 0) (fun _ => 0)
def hS_disks_19 : pSt := pMk 5 6 13 0 0 2 0 hS_disks_7.fa (upd hS_disks_18.dx 12 (nI 12)) (upd hS_disks_18.dy 12 (-12)) (upd hS_disks_18.dr 12 (nI 1)) (fun _ => 0) (fun _ => 0) (fun _ => 0) mW0 (fun _ => 0) (fun _ => 0)
def hS_disks_20 : pSt := pMk 5 6 14 0 0 2 0 hS_disks_7.fa (upd hS_disks_19.dx 13 (nI 13)) (upd hS_disks_19.dy 13 (-13)) (upd hS_disks_19.dr 13 (nI 1)) (fun _ => 0) (fun _ => 0) (fun _ => 0) mW0 (fun _ => 0) (fun _ => 0)
def hS_disks_21 : pSt := pMk 5 6 15 0 0 2 0 hS_disks_7.fa (upd hS_disks_20.dx 14 (nI 14)) (upd hS_disks_20.dy 14 (-14)) (upd hS_disks_20.dr 14 (nI 1)) (fun _ => 0) (fun _ => 0) (fun _ => 0) mW0 (fun _ => 0) (fun _ => 0)
def hS_disks_22 : pSt := pMk 5 6 16 0 0 2 0 hS_disks_7.fa (upd hS_disks_21.dx 15 (nI 15)) (upd hS_disks_21.dy 15 (-15)) (upd hS_disks_21.dr 15 (nI 1)) (fun _ => 0) (fun _ => 0) (fun _ => 0) mW0 (fun _ => 0) (fun _ => 0)
set_option maxHeartbeats 16000000 in
set_option maxRecDepth 100000 in
theorem pL_disks {l : Launch} (hst : l.stackTraces = false) {G : kG} {B0 : Nat} {f : kH} : Met l yL_disks wsP_disks rmH (kP G B0 f []) (kQi G B0 (fun r f1 => r = nI 1 ∧ True)) 9000 72000 (kAb B0) := by
  refine kMet (cc := cL_disks) (maxL := 2) (ret := (some .boolean)) (by decide) rfl (Nat.le_of_ble_eq_true rfl) ?_
  intro p e s mi args below meth c H locs Q ls C hX hl hr hlocks hnm hQ
  refine k_new (X := RX8) (T := TX8) (N := 7) (ci := 8) (fs := [.null, .null, .null, .null, .null, .null, .null]) C hX (fun w9 h9 => List.mem_cons_of_mem _ (inlX8 w9 h9)) tyX8_ok (fun w9 h9 => List.mem_cons_of_mem _ (in_new w9 h9)) rfl (by decide) (Nat.le_of_ble_eq_true rfl) (Nat.le_of_ble_eq_true rfl) dL_disks_0 (fun h H hn hX => ?_)
  refine lv_dup C.x C.b dL_disks_3 rfl ?_
  have h0 : kCs (kst f h (.inr (8, [.null, .null, .null, .null, .null, .null, .null]))) [(h, .inr (8, [.null, .null, .null, .null, .null, .null, .null]))] := ⟨fun q hq => by rw [List.mem_singleton.mp hq]; exact kst_s _ _ _, by simp⟩
  refine k_callv (va_runI (As := []) (rest := [.ref h]) C.1 (kX8_init l G B0 _ h h0) (cwI 0 C.ts (gl_up inw_X8_init) rfl rfl rfl (C.ts (.initialized RX8) (List.mem_cons_of_mem _ (in_ini _ (by simp)))) (C.ts (.methodLink RL 126 yX8_init) (List.mem_cons_of_mem _ (in_ini _ (by simp)))) (C.ts (.instanceMethod yX8_init) (List.mem_cons_of_mem _ (in_ini _ (by simp)))) rfl hdA_X8_init ⟨Nat.le_of_ble_eq_true rfl, Nat.le_of_ble_eq_true rfl⟩) (k_preS C hX) rfl rfl hl.1 rfl (lv_room (Nat.le_of_ble_eq_true rfl)) dL_disks_4 ⟨Nat.le_of_ble_eq_true rfl, Nat.le_of_ble_eq_true rfl⟩) hX (fun f H locs hp hX => ?_)
  obtain ⟨sp, nA, tA, dl, gl, rw9, sA, wA, ml, pp, nn, wL, qm, rm9, h1, -, -⟩ := hp
  have hI : Inv G h f p0 := Inv_start h1
  refine W.widen (k := 24) (n := 600) (by decide) (by decide) ?_
  refine lv_astore_n (lv' := [(0, .ref h)]) C.x C.b dL_disks_7 rfl hl (by decide) rfl (fun ls hl => ?_)
  refine lv_aload_n C.x C.b dL_disks_8 rfl (lv_at hl 0 rfl) ?_
  refine k_cI (As := []) (rest := []) (c2 := 32) (s2 := 664) (v := (nI 0)) (m1 := p0) C hX (iop_draws hst hI) (ev_draws (by decide +kernel)) hI.hd (gl_up inv_X8_draws) rfl ⟨rfl, hdA_X8_draws⟩ (by decide) rfl hl.1 rfl (by decide) dL_disks_9 ⟨Nat.le_of_ble_eq_true rfl, Nat.le_of_ble_eq_true rfl⟩ ⟨Nat.le_of_ble_eq_true rfl, Nat.le_of_ble_eq_true rfl⟩ rfl rfl (fun f H locs hX hI => ?_)
  refine lv_if_ne (tgt := 226) C.x C.b dL_disks_12 (by decide) (fun q9 => absurd (by decide) q9) (fun _ => ?_)
  refine lv_aload_n C.x C.b dL_disks_15 rfl (lv_at hl 0 rfl) ?_
  refine lv_bipush (v := (-15)) C.x C.b dL_disks_16 (by decide) ?_
  refine lv_iconst (v := (nI 0)) C.x C.b dL_disks_18 (by decide) ?_
  refine lv_bipush (v := (nI 15)) C.x C.b dL_disks_19 (by decide) ?_
  refine k_cI (As := [.int (-15), .int (nI 0), .int (nI 15)]) (rest := []) (c2 := 40) (s2 := 728) (v := (nI 0)) (m1 := hS_disks_1) C hX (iop_disk hst hI (-15) (nI 0) (nI 15)) (ev_disk 0 (by decide +kernel) (by decide) rfl rfl) hI.hd (gl_up inv_X8_disk) rfl ⟨rfl, hdA_X8_disk⟩ (by decide) rfl hl.1 rfl (by decide) dL_disks_21 ⟨Nat.le_of_ble_eq_true rfl, Nat.le_of_ble_eq_true rfl⟩ ⟨Nat.le_of_ble_eq_true rfl, Nat.le_of_ble_eq_true rfl⟩ rfl rfl (fun f H locs hX hI => ?_)
  refine lv_if_ne (tgt := 226) C.x C.b dL_disks_24 (by decide) (fun q9 => absurd (by decide) q9) (fun _ => ?_)
  refine lv_aload_n C.x C.b dL_disks_27 rfl (lv_at hl 0 rfl) ?_
  refine lv_bipush (v := (nI 15)) C.x C.b dL_disks_28 (by decide) ?_
  refine lv_iconst (v := (nI 0)) C.x C.b dL_disks_30 (by decide) ?_
  refine lv_bipush (v := (nI 15)) C.x C.b dL_disks_31 (by decide) ?_
  refine k_cI (As := [.int (nI 15), .int (nI 0), .int (nI 15)]) (rest := []) (c2 := 48) (s2 := 792) (v := (nI 1)) (m1 := hS_disks_2) C hX (iop_disk hst hI (nI 15) (nI 0) (nI 15)) (ev_disk 1 (by decide +kernel) (by decide) rfl rfl) hI.hd (gl_up inv_X8_disk) rfl ⟨rfl, hdA_X8_disk⟩ (by decide) rfl hl.1 rfl (by decide) dL_disks_33 ⟨Nat.le_of_ble_eq_true rfl, Nat.le_of_ble_eq_true rfl⟩ ⟨Nat.le_of_ble_eq_true rfl, Nat.le_of_ble_eq_true rfl⟩ rfl rfl (fun f H locs hX hI => ?_)
  refine lv_iconst (v := (nI 1)) C.x C.b dL_disks_36 (by decide) ?_
  refine lv_icmp_ne (tgt := 226) C.x C.b dL_disks_37 (by decide) (fun q9 => absurd (by decide) q9) (fun _ => ?_)
  refine lv_aload_n C.x C.b dL_disks_40 rfl (lv_at hl 0 rfl) ?_
  refine lv_iconst (v := (nI 0)) C.x C.b dL_disks_41 (by decide) ?_
  refine lv_bipush (v := (nI 20)) C.x C.b dL_disks_42 (by decide) ?_
  refine lv_bipush (v := (nI 10)) C.x C.b dL_disks_44 (by decide) ?_
  refine k_cI (As := [.int (nI 0), .int (nI 20), .int (nI 10)]) (rest := []) (c2 := 56) (s2 := 856) (v := (nI 2)) (m1 := hS_disks_3) C hX (iop_disk hst hI (nI 0) (nI 20) (nI 10)) (ev_disk 2 (by decide +kernel) (by decide) rfl rfl) hI.hd (gl_up inv_X8_disk) rfl ⟨rfl, hdA_X8_disk⟩ (by decide) rfl hl.1 rfl (by decide) dL_disks_46 ⟨Nat.le_of_ble_eq_true rfl, Nat.le_of_ble_eq_true rfl⟩ ⟨Nat.le_of_ble_eq_true rfl, Nat.le_of_ble_eq_true rfl⟩ rfl rfl (fun f H locs hX hI => ?_)
  refine lv_iconst (v := (nI 2)) C.x C.b dL_disks_49 (by decide) ?_
  refine lv_icmp_ne (tgt := 226) C.x C.b dL_disks_50 (by decide) (fun q9 => absurd (by decide) q9) (fun _ => ?_)
  refine lv_aload_n C.x C.b dL_disks_53 rfl (lv_at hl 0 rfl) ?_
  refine k_cI (As := []) (rest := []) (c2 := 64) (s2 := 920) (v := (nI 0)) (m1 := hS_disks_3) C hX (iop_draws hst hI) (ev_draws (by decide +kernel)) hI.hd (gl_up inv_X8_draws) rfl ⟨rfl, hdA_X8_draws⟩ (by decide) rfl hl.1 rfl (by decide) dL_disks_54 ⟨Nat.le_of_ble_eq_true rfl, Nat.le_of_ble_eq_true rfl⟩ ⟨Nat.le_of_ble_eq_true rfl, Nat.le_of_ble_eq_true rfl⟩ rfl rfl (fun f H locs hX hI => ?_)
  refine lv_if_ne (tgt := 226) C.x C.b dL_disks_57 (by decide) (fun q9 => absurd (by decide) q9) (fun _ => ?_)
  refine lv_aload_n C.x C.b dL_disks_60 rfl (lv_at hl 0 rfl) ?_
  refine lv_iconst (v := (nI 0)) C.x C.b dL_disks_61 (by decide) ?_
  refine lv_bipush (v := (nI 8)) C.x C.b dL_disks_62 (by decide) ?_
  refine lv_iconst (v := (nI 2)) C.x C.b dL_disks_64 (by decide) ?_
  refine k_cI (As := [.int (nI 0), .int (nI 8), .int (nI 2)]) (rest := []) (c2 := 72) (s2 := 984) (v := (nI 3)) (m1 := hS_disks_4) C hX (iop_disk hst hI (nI 0) (nI 8) (nI 2)) (ev_disk 3 (by decide +kernel) (by decide) rfl rfl) hI.hd (gl_up inv_X8_disk) rfl ⟨rfl, hdA_X8_disk⟩ (by decide) rfl hl.1 rfl (by decide) dL_disks_65 ⟨Nat.le_of_ble_eq_true rfl, Nat.le_of_ble_eq_true rfl⟩ ⟨Nat.le_of_ble_eq_true rfl, Nat.le_of_ble_eq_true rfl⟩ rfl rfl (fun f H locs hX hI => ?_)
  refine lv_iconst (v := (nI 3)) C.x C.b dL_disks_68 (by decide) ?_
  refine lv_icmp_ne (tgt := 226) C.x C.b dL_disks_69 (by decide) (fun q9 => absurd (by decide) q9) (fun _ => ?_)
  refine lv_aload_n C.x C.b dL_disks_72 rfl (lv_at hl 0 rfl) ?_
  refine k_cI (As := []) (rest := []) (c2 := 80) (s2 := 1048) (v := (nI 1)) (m1 := hS_disks_4) C hX (iop_draws hst hI) (ev_draws (by decide +kernel)) hI.hd (gl_up inv_X8_draws) rfl ⟨rfl, hdA_X8_draws⟩ (by decide) rfl hl.1 rfl (by decide) dL_disks_73 ⟨Nat.le_of_ble_eq_true rfl, Nat.le_of_ble_eq_true rfl⟩ ⟨Nat.le_of_ble_eq_true rfl, Nat.le_of_ble_eq_true rfl⟩ rfl rfl (fun f H locs hX hI => ?_)
  refine lv_if_eq (tgt := 226) C.x C.b dL_disks_76 (by decide) (fun q9 => absurd q9 (by decide)) (fun _ => ?_)
  refine lv_aload_n C.x C.b dL_disks_79 rfl (lv_at hl 0 rfl) ?_
  refine lv_iconst (v := (nI 1)) C.x C.b dL_disks_80 (by decide) ?_
  refine k_cI (As := [.int (nI 1)]) (rest := []) (c2 := 88) (s2 := 1112) (v := (nI 6)) (m1 := hS_disks_4) C hX (iop_pairs hst hI (nI 1)) (ev_pairs (by decide +kernel) (by decide +kernel)) hI.hd (gl_up inv_X8_pairs) rfl ⟨rfl, hdA_X8_pairs⟩ (by decide) rfl hl.1 rfl (by decide) dL_disks_81 ⟨Nat.le_of_ble_eq_true rfl, Nat.le_of_ble_eq_true rfl⟩ ⟨Nat.le_of_ble_eq_true rfl, Nat.le_of_ble_eq_true rfl⟩ rfl rfl (fun f H locs hX hI => ?_)
  refine lv_bipush (v := (nI 6)) C.x C.b dL_disks_84 (by decide) ?_
  refine lv_icmp_ne (tgt := 226) C.x C.b dL_disks_86 (by decide) (fun q9 => absurd (by decide) q9) (fun _ => ?_)
  refine lv_aload_n C.x C.b dL_disks_89 rfl (lv_at hl 0 rfl) ?_
  refine lv_iconst (v := (nI 0)) C.x C.b dL_disks_90 (by decide) ?_
  refine k_cI (As := [.int (nI 0)]) (rest := []) (c2 := 96) (s2 := 1176) (v := (nI 0)) (m1 := hS_disks_4) C hX (iop_pairs hst hI (nI 0)) (ev_pairs (by decide +kernel) (by decide +kernel)) hI.hd (gl_up inv_X8_pairs) rfl ⟨rfl, hdA_X8_pairs⟩ (by decide) rfl hl.1 rfl (by decide) dL_disks_91 ⟨Nat.le_of_ble_eq_true rfl, Nat.le_of_ble_eq_true rfl⟩ ⟨Nat.le_of_ble_eq_true rfl, Nat.le_of_ble_eq_true rfl⟩ rfl rfl (fun f H locs hX hI => ?_)
  refine lv_if_ne (tgt := 226) C.x C.b dL_disks_94 (by decide) (fun q9 => absurd (by decide) q9) (fun _ => ?_)
  refine lv_aload_n C.x C.b dL_disks_97 rfl (lv_at hl 0 rfl) ?_
  refine lv_iconst (v := (nI 2)) C.x C.b dL_disks_98 (by decide) ?_
  refine k_cI (As := [.int (nI 2)]) (rest := []) (c2 := 104) (s2 := 1240) (v := (nI 0)) (m1 := hS_disks_4) C hX (iop_pairs hst hI (nI 2)) (ev_pairs (by decide +kernel) (by decide +kernel)) hI.hd (gl_up inv_X8_pairs) rfl ⟨rfl, hdA_X8_pairs⟩ (by decide) rfl hl.1 rfl (by decide) dL_disks_99 ⟨Nat.le_of_ble_eq_true rfl, Nat.le_of_ble_eq_true rfl⟩ ⟨Nat.le_of_ble_eq_true rfl, Nat.le_of_ble_eq_true rfl⟩ rfl rfl (fun f H locs hX hI => ?_)
  refine lv_if_ne (tgt := 226) C.x C.b dL_disks_102 (by decide) (fun q9 => absurd (by decide) q9) (fun _ => ?_)
  refine lv_aload_n C.x C.b dL_disks_105 rfl (lv_at hl 0 rfl) ?_
  refine lv_iconst (v := (nI 2)) C.x C.b dL_disks_106 (by decide) ?_
  refine lv_iconst (v := (nI 3)) C.x C.b dL_disks_107 (by decide) ?_
  refine k_cI (As := [.int (nI 2), .int (nI 3)]) (rest := []) (c2 := 112) (s2 := 1304) (v := (nI 1)) (m1 := hS_disks_4) C hX (iop_lie hst hI (nI 2) (nI 3)) (ev_lie (by decide +kernel) (by decide +kernel) (by decide +kernel)) hI.hd (gl_up inv_X8_lie) rfl ⟨rfl, hdA_X8_lie⟩ (by decide) rfl hl.1 rfl (by decide) dL_disks_108 ⟨Nat.le_of_ble_eq_true rfl, Nat.le_of_ble_eq_true rfl⟩ ⟨Nat.le_of_ble_eq_true rfl, Nat.le_of_ble_eq_true rfl⟩ rfl rfl (fun f H locs hX hI => ?_)
  refine lv_iconst (v := (nI 1)) C.x C.b dL_disks_111 (by decide) ?_
  refine lv_icmp_ne (tgt := 226) C.x C.b dL_disks_112 (by decide) (fun q9 => absurd (by decide) q9) (fun _ => ?_)
  refine lv_aload_n C.x C.b dL_disks_115 rfl (lv_at hl 0 rfl) ?_
  refine lv_iconst (v := (nI 3)) C.x C.b dL_disks_116 (by decide) ?_
  refine lv_iconst (v := (nI 0)) C.x C.b dL_disks_117 (by decide) ?_
  refine lv_bipush (v := (nI 9)) C.x C.b dL_disks_118 (by decide) ?_
  refine lv_iconst (v := (nI 2)) C.x C.b dL_disks_120 (by decide) ?_
  refine k_cI (As := [.int (nI 3), .int (nI 0), .int (nI 9), .int (nI 2)]) (rest := []) (c2 := 120) (s2 := 1368) (v := (nI 2)) (m1 := hS_disks_5) C hX (iop_move hst hI (nI 3) (nI 0) (nI 9) (nI 2)) (ev_move 3 (by decide +kernel) (by decide) (by decide +kernel) (by decide +kernel) rfl) hI.hd (gl_up inv_X8_move) rfl ⟨rfl, hdA_X8_move⟩ (by decide) rfl hl.1 rfl (by decide) dL_disks_121 ⟨Nat.le_of_ble_eq_true rfl, Nat.le_of_ble_eq_true rfl⟩ ⟨Nat.le_of_ble_eq_true rfl, Nat.le_of_ble_eq_true rfl⟩ rfl rfl (fun f H locs hX hI => ?_)
  refine lv_iconst (v := (nI 2)) C.x C.b dL_disks_124 (by decide) ?_
  refine lv_icmp_ne (tgt := 226) C.x C.b dL_disks_125 (by decide) (fun q9 => absurd (by decide) q9) (fun _ => ?_)
  refine lv_aload_n C.x C.b dL_disks_128 rfl (lv_at hl 0 rfl) ?_
  refine lv_iconst (v := (nI 0)) C.x C.b dL_disks_129 (by decide) ?_
  refine lv_iconst (v := (nI 3)) C.x C.b dL_disks_130 (by decide) ?_
  refine k_cI (As := [.int (nI 0), .int (nI 3)]) (rest := []) (c2 := 128) (s2 := 1432) (v := (nI 0)) (m1 := hS_disks_5) C hX (iop_lie hst hI (nI 0) (nI 3)) (ev_lie (by decide +kernel) (by decide +kernel) (by decide +kernel)) hI.hd (gl_up inv_X8_lie) rfl ⟨rfl, hdA_X8_lie⟩ (by decide) rfl hl.1 rfl (by decide) dL_disks_131 ⟨Nat.le_of_ble_eq_true rfl, Nat.le_of_ble_eq_true rfl⟩ ⟨Nat.le_of_ble_eq_true rfl, Nat.le_of_ble_eq_true rfl⟩ rfl rfl (fun f H locs hX hI => ?_)
  refine lv_if_ne (tgt := 226) C.x C.b dL_disks_134 (by decide) (fun q9 => absurd (by decide) q9) (fun _ => ?_)
  refine lv_aload_n C.x C.b dL_disks_137 rfl (lv_at hl 0 rfl) ?_
  refine lv_iconst (v := (nI 3)) C.x C.b dL_disks_138 (by decide) ?_
  refine lv_iconst (v := (nI 1)) C.x C.b dL_disks_139 (by decide) ?_
  refine k_cI (As := [.int (nI 3), .int (nI 1)]) (rest := []) (c2 := 136) (s2 := 1496) (v := (nI 0)) (m1 := hS_disks_5) C hX (iop_lie hst hI (nI 3) (nI 1)) (ev_lie (by decide +kernel) (by decide +kernel) (by decide +kernel)) hI.hd (gl_up inv_X8_lie) rfl ⟨rfl, hdA_X8_lie⟩ (by decide) rfl hl.1 rfl (by decide) dL_disks_140 ⟨Nat.le_of_ble_eq_true rfl, Nat.le_of_ble_eq_true rfl⟩ ⟨Nat.le_of_ble_eq_true rfl, Nat.le_of_ble_eq_true rfl⟩ rfl rfl (fun f H locs hX hI => ?_)
  refine lv_if_ne (tgt := 226) C.x C.b dL_disks_143 (by decide) (fun q9 => absurd (by decide) q9) (fun _ => ?_)
  refine lv_aload_n C.x C.b dL_disks_146 rfl (lv_at hl 0 rfl) ?_
  refine lv_iconst (v := (nI 3)) C.x C.b dL_disks_147 (by decide) ?_
  refine lv_iconst (v := (nI 2)) C.x C.b dL_disks_148 (by decide) ?_
  refine k_cI (As := [.int (nI 3), .int (nI 2)]) (rest := []) (c2 := 144) (s2 := 1560) (v := (nI 2)) (m1 := hS_disks_5) C hX (iop_lie hst hI (nI 3) (nI 2)) (ev_lie (by decide +kernel) (by decide +kernel) (by decide +kernel)) hI.hd (gl_up inv_X8_lie) rfl ⟨rfl, hdA_X8_lie⟩ (by decide) rfl hl.1 rfl (by decide) dL_disks_149 ⟨Nat.le_of_ble_eq_true rfl, Nat.le_of_ble_eq_true rfl⟩ ⟨Nat.le_of_ble_eq_true rfl, Nat.le_of_ble_eq_true rfl⟩ rfl rfl (fun f H locs hX hI => ?_)
  refine lv_iconst (v := (nI 2)) C.x C.b dL_disks_152 (by decide) ?_
  refine lv_icmp_ne (tgt := 226) C.x C.b dL_disks_153 (by decide) (fun q9 => absurd (by decide) q9) (fun _ => ?_)
  refine lv_aload_n C.x C.b dL_disks_156 rfl (lv_at hl 0 rfl) ?_
  refine lv_iconst (v := (nI 0)) C.x C.b dL_disks_157 (by decide) ?_
  refine k_cI (As := [.int (nI 0)]) (rest := []) (c2 := 152) (s2 := 1624) (v := (nI 2)) (m1 := hS_disks_5) C hX (iop_pairs hst hI (nI 0)) (ev_pairs (by decide +kernel) (by decide +kernel)) hI.hd (gl_up inv_X8_pairs) rfl ⟨rfl, hdA_X8_pairs⟩ (by decide) rfl hl.1 rfl (by decide) dL_disks_158 ⟨Nat.le_of_ble_eq_true rfl, Nat.le_of_ble_eq_true rfl⟩ ⟨Nat.le_of_ble_eq_true rfl, Nat.le_of_ble_eq_true rfl⟩ rfl rfl (fun f H locs hX hI => ?_)
  refine lv_iconst (v := (nI 2)) C.x C.b dL_disks_161 (by decide) ?_
  refine lv_icmp_ne (tgt := 226) C.x C.b dL_disks_162 (by decide) (fun q9 => absurd (by decide) q9) (fun _ => ?_)
  refine lv_aload_n C.x C.b dL_disks_165 rfl (lv_at hl 0 rfl) ?_
  refine lv_iconst (v := (nI 1)) C.x C.b dL_disks_166 (by decide) ?_
  refine k_cI (As := [.int (nI 1)]) (rest := []) (c2 := 160) (s2 := 1688) (v := (nI 3)) (m1 := hS_disks_5) C hX (iop_pairs hst hI (nI 1)) (ev_pairs (by decide +kernel) (by decide +kernel)) hI.hd (gl_up inv_X8_pairs) rfl ⟨rfl, hdA_X8_pairs⟩ (by decide) rfl hl.1 rfl (by decide) dL_disks_167 ⟨Nat.le_of_ble_eq_true rfl, Nat.le_of_ble_eq_true rfl⟩ ⟨Nat.le_of_ble_eq_true rfl, Nat.le_of_ble_eq_true rfl⟩ rfl rfl (fun f H locs hX hI => ?_)
  refine lv_iconst (v := (nI 3)) C.x C.b dL_disks_170 (by decide) ?_
  refine lv_icmp_ne (tgt := 226) C.x C.b dL_disks_171 (by decide) (fun q9 => absurd (by decide) q9) (fun _ => ?_)
  refine lv_aload_n C.x C.b dL_disks_174 rfl (lv_at hl 0 rfl) ?_
  refine lv_iconst (v := (nI 2)) C.x C.b dL_disks_175 (by decide) ?_
  refine k_cI (As := [.int (nI 2)]) (rest := []) (c2 := 168) (s2 := 1752) (v := (nI 1)) (m1 := hS_disks_5) C hX (iop_pairs hst hI (nI 2)) (ev_pairs (by decide +kernel) (by decide +kernel)) hI.hd (gl_up inv_X8_pairs) rfl ⟨rfl, hdA_X8_pairs⟩ (by decide) rfl hl.1 rfl (by decide) dL_disks_176 ⟨Nat.le_of_ble_eq_true rfl, Nat.le_of_ble_eq_true rfl⟩ ⟨Nat.le_of_ble_eq_true rfl, Nat.le_of_ble_eq_true rfl⟩ rfl rfl (fun f H locs hX hI => ?_)
  refine lv_iconst (v := (nI 1)) C.x C.b dL_disks_179 (by decide) ?_
  refine lv_icmp_ne (tgt := 226) C.x C.b dL_disks_180 (by decide) (fun q9 => absurd (by decide) q9) (fun _ => ?_)
  refine lv_aload_n C.x C.b dL_disks_183 rfl (lv_at hl 0 rfl) ?_
  refine k_cI (As := []) (rest := []) (c2 := 176) (s2 := 1816) (v := (nI 0)) (m1 := hS_disks_5) C hX (iop_draws hst hI) (ev_draws (by decide +kernel)) hI.hd (gl_up inv_X8_draws) rfl ⟨rfl, hdA_X8_draws⟩ (by decide) rfl hl.1 rfl (by decide) dL_disks_184 ⟨Nat.le_of_ble_eq_true rfl, Nat.le_of_ble_eq_true rfl⟩ ⟨Nat.le_of_ble_eq_true rfl, Nat.le_of_ble_eq_true rfl⟩ rfl rfl (fun f H locs hX hI => ?_)
  refine lv_if_ne (tgt := 226) C.x C.b dL_disks_187 (by decide) (fun q9 => absurd (by decide) q9) (fun _ => ?_)
  refine lv_aload_n C.x C.b dL_disks_190 rfl (lv_at hl 0 rfl) ?_
  refine lv_iconst (v := (nI 3)) C.x C.b dL_disks_191 (by decide) ?_
  refine lv_iconst (v := (nI 0)) C.x C.b dL_disks_192 (by decide) ?_
  refine lv_bipush (v := (nI 8)) C.x C.b dL_disks_193 (by decide) ?_
  refine lv_iconst (v := (nI 2)) C.x C.b dL_disks_195 (by decide) ?_
  refine k_cI (As := [.int (nI 3), .int (nI 0), .int (nI 8), .int (nI 2)]) (rest := []) (c2 := 184) (s2 := 1880) (v := (nI 2)) (m1 := hS_disks_6) C hX (iop_move hst hI (nI 3) (nI 0) (nI 8) (nI 2)) (ev_move 3 (by decide +kernel) (by decide) (by decide +kernel) (by decide +kernel) rfl) hI.hd (gl_up inv_X8_move) rfl ⟨rfl, hdA_X8_move⟩ (by decide) rfl hl.1 rfl (by decide) dL_disks_196 ⟨Nat.le_of_ble_eq_true rfl, Nat.le_of_ble_eq_true rfl⟩ ⟨Nat.le_of_ble_eq_true rfl, Nat.le_of_ble_eq_true rfl⟩ rfl rfl (fun f H locs hX hI => ?_)
  refine lv_iconst (v := (nI 2)) C.x C.b dL_disks_199 (by decide) ?_
  refine lv_icmp_ne (tgt := 226) C.x C.b dL_disks_200 (by decide) (fun q9 => absurd (by decide) q9) (fun _ => ?_)
  refine lv_aload_n C.x C.b dL_disks_203 rfl (lv_at hl 0 rfl) ?_
  refine k_cI (As := []) (rest := []) (c2 := 192) (s2 := 1944) (v := (nI 1)) (m1 := hS_disks_6) C hX (iop_draws hst hI) (ev_draws (by decide +kernel)) hI.hd (gl_up inv_X8_draws) rfl ⟨rfl, hdA_X8_draws⟩ (by decide) rfl hl.1 rfl (by decide) dL_disks_204 ⟨Nat.le_of_ble_eq_true rfl, Nat.le_of_ble_eq_true rfl⟩ ⟨Nat.le_of_ble_eq_true rfl, Nat.le_of_ble_eq_true rfl⟩ rfl rfl (fun f H locs hX hI => ?_)
  refine lv_if_eq (tgt := 226) C.x C.b dL_disks_207 (by decide) (fun q9 => absurd q9 (by decide)) (fun _ => ?_)
  refine lv_aload_n C.x C.b dL_disks_210 rfl (lv_at hl 0 rfl) ?_
  refine lv_iconst (v := (nI 0)) C.x C.b dL_disks_211 (by decide) ?_
  refine k_cI (As := [.int (nI 0)]) (rest := []) (c2 := 200) (s2 := 2008) (v := (nI 4)) (m1 := hS_disks_7) C hX (iop_split hst hI (nI 0)) (ev_split 0 0 1 2 4 4 (by decide) (by decide) (by decide) rfl rfl (by decide +kernel) (by decide +kernel) (by decide +kernel) rfl) hI.hd (gl_up inv_X8_split) rfl ⟨rfl, hdA_X8_split⟩ (by decide) rfl hl.1 rfl (by decide) dL_disks_212 ⟨Nat.le_of_ble_eq_true rfl, Nat.le_of_ble_eq_true rfl⟩ ⟨Nat.le_of_ble_eq_true rfl, Nat.le_of_ble_eq_true rfl⟩ rfl rfl (fun f H locs hX hI => ?_)
  refine lv_iconst (v := (nI 4)) C.x C.b dL_disks_215 (by decide) ?_
  refine lv_icmp_ne (tgt := 226) C.x C.b dL_disks_216 (by decide) (fun q9 => absurd (by decide) q9) (fun _ => ?_)
  refine lv_aload_n C.x C.b dL_disks_219 rfl (lv_at hl 0 rfl) ?_
  refine k_cI (As := []) (rest := []) (c2 := 208) (s2 := 2072) (v := (nI 0)) (m1 := hS_disks_7) C hX (iop_draws hst hI) (ev_draws (by decide +kernel)) hI.hd (gl_up inv_X8_draws) rfl ⟨rfl, hdA_X8_draws⟩ (by decide) rfl hl.1 rfl (by decide) dL_disks_220 ⟨Nat.le_of_ble_eq_true rfl, Nat.le_of_ble_eq_true rfl⟩ ⟨Nat.le_of_ble_eq_true rfl, Nat.le_of_ble_eq_true rfl⟩ rfl rfl (fun f H locs hX hI => ?_)
  refine lv_if_eq (tgt := 228) C.x C.b dL_disks_223 (by decide) (fun _ => ?_) (fun q9 => absurd (by decide) q9)
  refine lv_aload_n C.x C.b dL_disks_228 rfl (lv_at hl 0 rfl) ?_
  refine lv_iconst (v := (nI 0)) C.x C.b dL_disks_229 (by decide) ?_
  refine lv_bipush (v := (nI 100)) C.x C.b dL_disks_230 (by decide) ?_
  refine lv_iconst (v := (nI 1)) C.x C.b dL_disks_232 (by decide) ?_
  refine k_cI (As := [.int (nI 0), .int (nI 100), .int (nI 1)]) (rest := []) (c2 := 216) (s2 := 2136) (v := (nI 4)) (m1 := hS_disks_8) C hX (iop_disk hst hI (nI 0) (nI 100) (nI 1)) (ev_disk 4 (by decide +kernel) (by decide) rfl rfl) hI.hd (gl_up inv_X8_disk) rfl ⟨rfl, hdA_X8_disk⟩ (by decide) rfl hl.1 rfl (by decide) dL_disks_233 ⟨Nat.le_of_ble_eq_true rfl, Nat.le_of_ble_eq_true rfl⟩ ⟨Nat.le_of_ble_eq_true rfl, Nat.le_of_ble_eq_true rfl⟩ rfl rfl (fun f H locs hX hI => ?_)
  refine lv_iconst (v := (nI 4)) C.x C.b dL_disks_236 (by decide) ?_
  refine lv_icmp_ne (tgt := 348) C.x C.b dL_disks_237 (by decide) (fun q9 => absurd (by decide) q9) (fun _ => ?_)
  refine lv_aload_n C.x C.b dL_disks_240 rfl (lv_at hl 0 rfl) ?_
  refine k_cI (As := []) (rest := []) (c2 := 224) (s2 := 2200) (v := (nI 0)) (m1 := hS_disks_8) C hX (iop_draws hst hI) (ev_draws (by decide +kernel)) hI.hd (gl_up inv_X8_draws) rfl ⟨rfl, hdA_X8_draws⟩ (by decide) rfl hl.1 rfl (by decide) dL_disks_241 ⟨Nat.le_of_ble_eq_true rfl, Nat.le_of_ble_eq_true rfl⟩ ⟨Nat.le_of_ble_eq_true rfl, Nat.le_of_ble_eq_true rfl⟩ rfl rfl (fun f H locs hX hI => ?_)
  refine lv_if_ne (tgt := 348) C.x C.b dL_disks_244 (by decide) (fun q9 => absurd (by decide) q9) (fun _ => ?_)
  refine lv_aload_n C.x C.b dL_disks_247 rfl (lv_at hl 0 rfl) ?_
  refine lv_iconst (v := (nI 4)) C.x C.b dL_disks_248 (by decide) ?_
  refine lv_ldc (v := (-1000000000)) C.x C.b C.ow (C.ts _ (List.mem_cons_of_mem _ lkC_640)) dL_disks_249 ?_
  refine lv_ldc (v := (-1000000000)) C.x C.b C.ow (C.ts _ (List.mem_cons_of_mem _ lkC_640)) dL_disks_251 ?_
  refine lv_iconst (v := (nI 1)) C.x C.b dL_disks_253 (by decide) ?_
  refine k_cI (As := [.int (nI 4), .int (-1000000000), .int (-1000000000), .int (nI 1)]) (rest := []) (c2 := 232) (s2 := 2264) (v := (nI 1)) (m1 := hS_disks_9) C hX (iop_move hst hI (nI 4) (-1000000000) (-1000000000) (nI 1)) (ev_move 4 (by decide +kernel) (by decide) (by decide +kernel) (by decide +kernel) rfl) hI.hd (gl_up inv_X8_move) rfl ⟨rfl, hdA_X8_move⟩ (by decide) rfl hl.1 rfl (by decide) dL_disks_254 ⟨Nat.le_of_ble_eq_true rfl, Nat.le_of_ble_eq_true rfl⟩ ⟨Nat.le_of_ble_eq_true rfl, Nat.le_of_ble_eq_true rfl⟩ rfl rfl (fun f H locs hX hI => ?_)
  refine lv_iconst (v := (nI 1)) C.x C.b dL_disks_257 (by decide) ?_
  refine lv_icmp_ne (tgt := 348) C.x C.b dL_disks_258 (by decide) (fun q9 => absurd (by decide) q9) (fun _ => ?_)
  refine lv_aload_n C.x C.b dL_disks_261 rfl (lv_at hl 0 rfl) ?_
  refine lv_ldc (v := (nI 1000000000)) C.x C.b C.ow (C.ts _ (List.mem_cons_of_mem _ lkC_641)) dL_disks_262 ?_
  refine lv_ldc (v := (nI 1000000000)) C.x C.b C.ow (C.ts _ (List.mem_cons_of_mem _ lkC_641)) dL_disks_264 ?_
  refine lv_ldc (v := (nI 1000000000)) C.x C.b C.ow (C.ts _ (List.mem_cons_of_mem _ lkC_641)) dL_disks_266 ?_
  refine k_cI (As := [.int (nI 1000000000), .int (nI 1000000000), .int (nI 1000000000)]) (rest := []) (c2 := 240) (s2 := 2328) (v := (nI 5)) (m1 := hS_disks_10) C hX (iop_disk hst hI (nI 1000000000) (nI 1000000000) (nI 1000000000)) (ev_disk 5 (by decide +kernel) (by decide) rfl rfl) hI.hd (gl_up inv_X8_disk) rfl ⟨rfl, hdA_X8_disk⟩ (by decide) rfl hl.1 rfl (by decide) dL_disks_268 ⟨Nat.le_of_ble_eq_true rfl, Nat.le_of_ble_eq_true rfl⟩ ⟨Nat.le_of_ble_eq_true rfl, Nat.le_of_ble_eq_true rfl⟩ rfl rfl (fun f H locs hX hI => ?_)
  refine lv_iconst (v := (nI 5)) C.x C.b dL_disks_271 (by decide) ?_
  refine lv_icmp_ne (tgt := 348) C.x C.b dL_disks_272 (by decide) (fun q9 => absurd (by decide) q9) (fun _ => ?_)
  refine lv_aload_n C.x C.b dL_disks_275 rfl (lv_at hl 0 rfl) ?_
  refine lv_iconst (v := (nI 4)) C.x C.b dL_disks_276 (by decide) ?_
  refine lv_iconst (v := (nI 5)) C.x C.b dL_disks_277 (by decide) ?_
  refine k_cI (As := [.int (nI 4), .int (nI 5)]) (rest := []) (c2 := 248) (s2 := 2392) (v := (nI 0)) (m1 := hS_disks_10) C hX (iop_lie hst hI (nI 4) (nI 5)) (ev_lie (by decide +kernel) (by decide +kernel) (by decide +kernel)) hI.hd (gl_up inv_X8_lie) rfl ⟨rfl, hdA_X8_lie⟩ (by decide) rfl hl.1 rfl (by decide) dL_disks_278 ⟨Nat.le_of_ble_eq_true rfl, Nat.le_of_ble_eq_true rfl⟩ ⟨Nat.le_of_ble_eq_true rfl, Nat.le_of_ble_eq_true rfl⟩ rfl rfl (fun f H locs hX hI => ?_)
  refine lv_if_ne (tgt := 348) C.x C.b dL_disks_281 (by decide) (fun q9 => absurd (by decide) q9) (fun _ => ?_)
  refine lv_aload_n C.x C.b dL_disks_284 rfl (lv_at hl 0 rfl) ?_
  refine lv_iconst (v := (nI 4)) C.x C.b dL_disks_285 (by decide) ?_
  refine lv_ldc (v := (-1000000000)) C.x C.b C.ow (C.ts _ (List.mem_cons_of_mem _ lkC_640)) dL_disks_286 ?_
  refine lv_ldc (v := (nI 1000000000)) C.x C.b C.ow (C.ts _ (List.mem_cons_of_mem _ lkC_641)) dL_disks_288 ?_
  refine lv_ldc (v := (nI 1000000000)) C.x C.b C.ow (C.ts _ (List.mem_cons_of_mem _ lkC_641)) dL_disks_290 ?_
  refine k_cI (As := [.int (nI 4), .int (-1000000000), .int (nI 1000000000), .int (nI 1000000000)]) (rest := []) (c2 := 256) (s2 := 2456) (v := (nI 1)) (m1 := hS_disks_11) C hX (iop_move hst hI (nI 4) (-1000000000) (nI 1000000000) (nI 1000000000)) (ev_move 4 (by decide +kernel) (by decide) (by decide +kernel) (by decide +kernel) rfl) hI.hd (gl_up inv_X8_move) rfl ⟨rfl, hdA_X8_move⟩ (by decide) rfl hl.1 rfl (by decide) dL_disks_292 ⟨Nat.le_of_ble_eq_true rfl, Nat.le_of_ble_eq_true rfl⟩ ⟨Nat.le_of_ble_eq_true rfl, Nat.le_of_ble_eq_true rfl⟩ rfl rfl (fun f H locs hX hI => ?_)
  refine lv_iconst (v := (nI 1)) C.x C.b dL_disks_295 (by decide) ?_
  refine lv_icmp_ne (tgt := 348) C.x C.b dL_disks_296 (by decide) (fun q9 => absurd (by decide) q9) (fun _ => ?_)
  refine lv_aload_n C.x C.b dL_disks_299 rfl (lv_at hl 0 rfl) ?_
  refine lv_iconst (v := (nI 4)) C.x C.b dL_disks_300 (by decide) ?_
  refine lv_iconst (v := (nI 5)) C.x C.b dL_disks_301 (by decide) ?_
  refine k_cI (As := [.int (nI 4), .int (nI 5)]) (rest := []) (c2 := 264) (s2 := 2520) (v := (nI 1)) (m1 := hS_disks_11) C hX (iop_lie hst hI (nI 4) (nI 5)) (ev_lie (by decide +kernel) (by decide +kernel) (by decide +kernel)) hI.hd (gl_up inv_X8_lie) rfl ⟨rfl, hdA_X8_lie⟩ (by decide) rfl hl.1 rfl (by decide) dL_disks_302 ⟨Nat.le_of_ble_eq_true rfl, Nat.le_of_ble_eq_true rfl⟩ ⟨Nat.le_of_ble_eq_true rfl, Nat.le_of_ble_eq_true rfl⟩ rfl rfl (fun f H locs hX hI => ?_)
  refine lv_iconst (v := (nI 1)) C.x C.b dL_disks_305 (by decide) ?_
  refine lv_icmp_ne (tgt := 348) C.x C.b dL_disks_306 (by decide) (fun q9 => absurd (by decide) q9) (fun _ => ?_)
  refine lv_aload_n C.x C.b dL_disks_309 rfl (lv_at hl 0 rfl) ?_
  refine lv_iconst (v := (nI 4)) C.x C.b dL_disks_310 (by decide) ?_
  refine lv_ldc (v := (-999999999)) C.x C.b C.ow (C.ts _ (List.mem_cons_of_mem _ lkC_642)) dL_disks_311 ?_
  refine lv_ldc (v := (nI 1000000000)) C.x C.b C.ow (C.ts _ (List.mem_cons_of_mem _ lkC_641)) dL_disks_313 ?_
  refine lv_ldc (v := (nI 1000000000)) C.x C.b C.ow (C.ts _ (List.mem_cons_of_mem _ lkC_641)) dL_disks_315 ?_
  refine k_cI (As := [.int (nI 4), .int (-999999999), .int (nI 1000000000), .int (nI 1000000000)]) (rest := []) (c2 := 272) (s2 := 2584) (v := (nI 1000000000)) (m1 := hS_disks_12) C hX (iop_move hst hI (nI 4) (-999999999) (nI 1000000000) (nI 1000000000)) (ev_move 4 (by decide +kernel) (by decide) (by decide +kernel) (by decide +kernel) rfl) hI.hd (gl_up inv_X8_move) rfl ⟨rfl, hdA_X8_move⟩ (by decide) rfl hl.1 rfl (by decide) dL_disks_317 ⟨Nat.le_of_ble_eq_true rfl, Nat.le_of_ble_eq_true rfl⟩ ⟨Nat.le_of_ble_eq_true rfl, Nat.le_of_ble_eq_true rfl⟩ rfl rfl (fun f H locs hX hI => ?_)
  refine lv_ldc (v := (nI 1000000000)) C.x C.b C.ow (C.ts _ (List.mem_cons_of_mem _ lkC_641)) dL_disks_320 ?_
  refine lv_icmp_ne (tgt := 348) C.x C.b dL_disks_322 (by decide) (fun q9 => absurd (by decide) q9) (fun _ => ?_)
  refine lv_aload_n C.x C.b dL_disks_325 rfl (lv_at hl 0 rfl) ?_
  refine lv_iconst (v := (nI 4)) C.x C.b dL_disks_326 (by decide) ?_
  refine lv_iconst (v := (nI 5)) C.x C.b dL_disks_327 (by decide) ?_
  refine k_cI (As := [.int (nI 4), .int (nI 5)]) (rest := []) (c2 := 280) (s2 := 2648) (v := (nI 2)) (m1 := hS_disks_12) C hX (iop_lie hst hI (nI 4) (nI 5)) (ev_lie (by decide +kernel) (by decide +kernel) (by decide +kernel)) hI.hd (gl_up inv_X8_lie) rfl ⟨rfl, hdA_X8_lie⟩ (by decide) rfl hl.1 rfl (by decide) dL_disks_328 ⟨Nat.le_of_ble_eq_true rfl, Nat.le_of_ble_eq_true rfl⟩ ⟨Nat.le_of_ble_eq_true rfl, Nat.le_of_ble_eq_true rfl⟩ rfl rfl (fun f H locs hX hI => ?_)
  refine lv_iconst (v := (nI 2)) C.x C.b dL_disks_331 (by decide) ?_
  refine lv_icmp_ne (tgt := 348) C.x C.b dL_disks_332 (by decide) (fun q9 => absurd (by decide) q9) (fun _ => ?_)
  refine lv_aload_n C.x C.b dL_disks_335 rfl (lv_at hl 0 rfl) ?_
  refine lv_bipush (v := (nI 6)) C.x C.b dL_disks_336 (by decide) ?_
  refine lv_iconst (v := (nI 0)) C.x C.b dL_disks_338 (by decide) ?_
  refine lv_iconst (v := (nI 0)) C.x C.b dL_disks_339 (by decide) ?_
  refine lv_iconst (v := (nI 2)) C.x C.b dL_disks_340 (by decide) ?_
  refine lv_iconst (v := (nI 0)) C.x C.b dL_disks_341 (by decide) ?_
  refine k_law (As := [.ref h, .int (nI 6), .int (nI 0), .int (nI 0), .int (nI 2), .int (nI 0)]) (rest := []) (c2 := 3580) (s2 := 29048) (m1 := hS_disks_12) C hX (pL_refuses hst hI) (gl_up inv_L_refuses) rfl rfl rfl hdP_L_refuses ⟨Nat.le_of_ble_eq_true rfl, Nat.le_of_ble_eq_true rfl⟩ rfl hl.1 rfl (by decide) dL_disks_342 ⟨Nat.le_of_ble_eq_true rfl, Nat.le_of_ble_eq_true rfl⟩ rfl rfl (fun f H locs hX hI => ?_)
  refine lv_if_ne (tgt := 350) C.x C.b dL_disks_345 (by decide) (fun _ => ?_) (fun q9 => absurd q9 (by decide))
  refine lv_bipush (v := (nI 6)) C.x C.b dL_disks_350 (by decide) ?_
  refine lv_istore_n (lv' := [(1, .int (nI 6)), (0, .ref h)]) C.x C.b dL_disks_352 rfl hl (by decide) rfl (fun ls hl => ?_)
  refine lv_iload_n C.x C.b dL_disks_353 rfl (lv_at hl 0 rfl) ?_
  refine lv_bipush (v := (nI 17)) C.x C.b dL_disks_354 (by decide) ?_
  refine lv_icmp_ge (tgt := 394) C.x C.b dL_disks_356 (by decide) (fun q9 => absurd q9 (by decide)) (fun _ => ?_)
  refine lv_aload_n C.x C.b dL_disks_359 rfl (lv_at hl 1 rfl) ?_
  refine lv_iconst (v := (nI 5)) C.x C.b dL_disks_360 (by decide) ?_
  refine lv_iload_n C.x C.b dL_disks_361 rfl (lv_at hl 0 rfl) ?_
  refine lv_iload_n C.x C.b dL_disks_362 rfl (lv_at hl 0 rfl) ?_
  refine lv_ineg C.x C.b dL_disks_363 ?_
  refine k_topi (y := (-6)) (by decide) ?_
  refine lv_iconst (v := (nI 1)) C.x C.b dL_disks_364 (by decide) ?_
  refine lv_iconst (v := (nI 0)) C.x C.b dL_disks_365 (by decide) ?_
  refine k_actI (As := [.ref h, .int (nI 5), .int (nI 6), .int (-6), .int (nI 1), .int (nI 0)]) (rest := []) (c2 := 3588) (s2 := 29112) (v := 6) (m1 := hS_disks_13) C hX (act_5 hI.hd (nI 6) (-6) (nI 1) (nI 0) (iop_disk hst hI (nI 6) (-6) (nI 1))) (ev_disk 6 (by decide +kernel) (by decide) rfl rfl) (rfl) (gl_up inv_L_act) rfl hl.1 rfl (by decide) dL_disks_366 ⟨Nat.le_of_ble_eq_true rfl, Nat.le_of_ble_eq_true rfl⟩ ⟨Nat.le_of_ble_eq_true rfl, Nat.le_of_ble_eq_true rfl⟩ rfl rfl (fun f H locs hX hI => ?_)
  refine lv_iload_n C.x C.b dL_disks_369 rfl (lv_at hl 0 rfl) ?_
  refine lv_bipush (v := (nI 16)) C.x C.b dL_disks_370 (by decide) ?_
  refine lv_icmp_ge (tgt := 379) C.x C.b dL_disks_372 (by decide) (fun q9 => absurd q9 (by decide)) (fun _ => ?_)
  refine lv_iload_n C.x C.b dL_disks_375 rfl (lv_at hl 0 rfl) ?_
  refine lv_goto (tgt := 381) C.x C.b dL_disks_376 (by decide) ?_
  refine lv_i2l (v := (nI 6).toInt64) C.x C.b dL_disks_381 rfl ?_
  refine k_topl (y := 6) (by decide) ?_
  refine k_lcmp_eq (tgt := 388) C.x C.b dL_disks_382 dL_disks_383 (by decide) (fun _ => ?_) (fun q9 => absurd (by decide) q9)
  refine lv_iinc (v := (nI 7)) (lv' := [(1, .int (nI 7)), (0, .ref h)]) C.x C.b dL_disks_388 hl (k := 0) rfl (by decide) (by decide) rfl (fun ls hl => ?_)
  refine lv_goto (tgt := 353) C.x C.b dL_disks_391 (by decide) ?_
  refine lv_iload_n C.x C.b dL_disks_353 rfl (lv_at hl 0 rfl) ?_
  refine lv_bipush (v := (nI 17)) C.x C.b dL_disks_354 (by decide) ?_
  refine lv_icmp_ge (tgt := 394) C.x C.b dL_disks_356 (by decide) (fun q9 => absurd q9 (by decide)) (fun _ => ?_)
  refine lv_aload_n C.x C.b dL_disks_359 rfl (lv_at hl 1 rfl) ?_
  refine lv_iconst (v := (nI 5)) C.x C.b dL_disks_360 (by decide) ?_
  refine lv_iload_n C.x C.b dL_disks_361 rfl (lv_at hl 0 rfl) ?_
  refine lv_iload_n C.x C.b dL_disks_362 rfl (lv_at hl 0 rfl) ?_
  refine lv_ineg C.x C.b dL_disks_363 ?_
  refine k_topi (y := (-7)) (by decide) ?_
  refine lv_iconst (v := (nI 1)) C.x C.b dL_disks_364 (by decide) ?_
  refine lv_iconst (v := (nI 0)) C.x C.b dL_disks_365 (by decide) ?_
  refine k_actI (As := [.ref h, .int (nI 5), .int (nI 7), .int (-7), .int (nI 1), .int (nI 0)]) (rest := []) (c2 := 3596) (s2 := 29176) (v := 7) (m1 := hS_disks_14) C hX (act_5 hI.hd (nI 7) (-7) (nI 1) (nI 0) (iop_disk hst hI (nI 7) (-7) (nI 1))) (ev_disk 7 (by decide +kernel) (by decide) rfl rfl) (rfl) (gl_up inv_L_act) rfl hl.1 rfl (by decide) dL_disks_366 ⟨Nat.le_of_ble_eq_true rfl, Nat.le_of_ble_eq_true rfl⟩ ⟨Nat.le_of_ble_eq_true rfl, Nat.le_of_ble_eq_true rfl⟩ rfl rfl (fun f H locs hX hI => ?_)
  refine lv_iload_n C.x C.b dL_disks_369 rfl (lv_at hl 0 rfl) ?_
  refine lv_bipush (v := (nI 16)) C.x C.b dL_disks_370 (by decide) ?_
  refine lv_icmp_ge (tgt := 379) C.x C.b dL_disks_372 (by decide) (fun q9 => absurd q9 (by decide)) (fun _ => ?_)
  refine lv_iload_n C.x C.b dL_disks_375 rfl (lv_at hl 0 rfl) ?_
  refine lv_goto (tgt := 381) C.x C.b dL_disks_376 (by decide) ?_
  refine lv_i2l (v := (nI 7).toInt64) C.x C.b dL_disks_381 rfl ?_
  refine k_topl (y := 7) (by decide) ?_
  refine k_lcmp_eq (tgt := 388) C.x C.b dL_disks_382 dL_disks_383 (by decide) (fun _ => ?_) (fun q9 => absurd (by decide) q9)
  refine lv_iinc (v := (nI 8)) (lv' := [(1, .int (nI 8)), (0, .ref h)]) C.x C.b dL_disks_388 hl (k := 0) rfl (by decide) (by decide) rfl (fun ls hl => ?_)
  refine lv_goto (tgt := 353) C.x C.b dL_disks_391 (by decide) ?_
  refine lv_iload_n C.x C.b dL_disks_353 rfl (lv_at hl 0 rfl) ?_
  refine lv_bipush (v := (nI 17)) C.x C.b dL_disks_354 (by decide) ?_
  refine lv_icmp_ge (tgt := 394) C.x C.b dL_disks_356 (by decide) (fun q9 => absurd q9 (by decide)) (fun _ => ?_)
  refine lv_aload_n C.x C.b dL_disks_359 rfl (lv_at hl 1 rfl) ?_
  refine lv_iconst (v := (nI 5)) C.x C.b dL_disks_360 (by decide) ?_
  refine lv_iload_n C.x C.b dL_disks_361 rfl (lv_at hl 0 rfl) ?_
  refine lv_iload_n C.x C.b dL_disks_362 rfl (lv_at hl 0 rfl) ?_
  refine lv_ineg C.x C.b dL_disks_363 ?_
  refine k_topi (y := (-8)) (by decide) ?_
  refine lv_iconst (v := (nI 1)) C.x C.b dL_disks_364 (by decide) ?_
  refine lv_iconst (v := (nI 0)) C.x C.b dL_disks_365 (by decide) ?_
  refine k_actI (As := [.ref h, .int (nI 5), .int (nI 8), .int (-8), .int (nI 1), .int (nI 0)]) (rest := []) (c2 := 3604) (s2 := 29240) (v := 8) (m1 := hS_disks_15) C hX (act_5 hI.hd (nI 8) (-8) (nI 1) (nI 0) (iop_disk hst hI (nI 8) (-8) (nI 1))) (ev_disk 8 (by decide +kernel) (by decide) rfl rfl) (rfl) (gl_up inv_L_act) rfl hl.1 rfl (by decide) dL_disks_366 ⟨Nat.le_of_ble_eq_true rfl, Nat.le_of_ble_eq_true rfl⟩ ⟨Nat.le_of_ble_eq_true rfl, Nat.le_of_ble_eq_true rfl⟩ rfl rfl (fun f H locs hX hI => ?_)
  refine lv_iload_n C.x C.b dL_disks_369 rfl (lv_at hl 0 rfl) ?_
  refine lv_bipush (v := (nI 16)) C.x C.b dL_disks_370 (by decide) ?_
  refine lv_icmp_ge (tgt := 379) C.x C.b dL_disks_372 (by decide) (fun q9 => absurd q9 (by decide)) (fun _ => ?_)
  refine lv_iload_n C.x C.b dL_disks_375 rfl (lv_at hl 0 rfl) ?_
  refine lv_goto (tgt := 381) C.x C.b dL_disks_376 (by decide) ?_
  refine lv_i2l (v := (nI 8).toInt64) C.x C.b dL_disks_381 rfl ?_
  refine k_topl (y := 8) (by decide) ?_
  refine k_lcmp_eq (tgt := 388) C.x C.b dL_disks_382 dL_disks_383 (by decide) (fun _ => ?_) (fun q9 => absurd (by decide) q9)
  refine lv_iinc (v := (nI 9)) (lv' := [(1, .int (nI 9)), (0, .ref h)]) C.x C.b dL_disks_388 hl (k := 0) rfl (by decide) (by decide) rfl (fun ls hl => ?_)
  refine lv_goto (tgt := 353) C.x C.b dL_disks_391 (by decide) ?_
  refine lv_iload_n C.x C.b dL_disks_353 rfl (lv_at hl 0 rfl) ?_
  refine lv_bipush (v := (nI 17)) C.x C.b dL_disks_354 (by decide) ?_
  refine lv_icmp_ge (tgt := 394) C.x C.b dL_disks_356 (by decide) (fun q9 => absurd q9 (by decide)) (fun _ => ?_)
  refine lv_aload_n C.x C.b dL_disks_359 rfl (lv_at hl 1 rfl) ?_
  refine lv_iconst (v := (nI 5)) C.x C.b dL_disks_360 (by decide) ?_
  refine lv_iload_n C.x C.b dL_disks_361 rfl (lv_at hl 0 rfl) ?_
  refine lv_iload_n C.x C.b dL_disks_362 rfl (lv_at hl 0 rfl) ?_
  refine lv_ineg C.x C.b dL_disks_363 ?_
  refine k_topi (y := (-9)) (by decide) ?_
  refine lv_iconst (v := (nI 1)) C.x C.b dL_disks_364 (by decide) ?_
  refine lv_iconst (v := (nI 0)) C.x C.b dL_disks_365 (by decide) ?_
  refine k_actI (As := [.ref h, .int (nI 5), .int (nI 9), .int (-9), .int (nI 1), .int (nI 0)]) (rest := []) (c2 := 3612) (s2 := 29304) (v := 9) (m1 := hS_disks_16) C hX (act_5 hI.hd (nI 9) (-9) (nI 1) (nI 0) (iop_disk hst hI (nI 9) (-9) (nI 1))) (ev_disk 9 (by decide +kernel) (by decide) rfl rfl) (rfl) (gl_up inv_L_act) rfl hl.1 rfl (by decide) dL_disks_366 ⟨Nat.le_of_ble_eq_true rfl, Nat.le_of_ble_eq_true rfl⟩ ⟨Nat.le_of_ble_eq_true rfl, Nat.le_of_ble_eq_true rfl⟩ rfl rfl (fun f H locs hX hI => ?_)
  refine lv_iload_n C.x C.b dL_disks_369 rfl (lv_at hl 0 rfl) ?_
  refine lv_bipush (v := (nI 16)) C.x C.b dL_disks_370 (by decide) ?_
  refine lv_icmp_ge (tgt := 379) C.x C.b dL_disks_372 (by decide) (fun q9 => absurd q9 (by decide)) (fun _ => ?_)
  refine lv_iload_n C.x C.b dL_disks_375 rfl (lv_at hl 0 rfl) ?_
  refine lv_goto (tgt := 381) C.x C.b dL_disks_376 (by decide) ?_
  refine lv_i2l (v := (nI 9).toInt64) C.x C.b dL_disks_381 rfl ?_
  refine k_topl (y := 9) (by decide) ?_
  refine k_lcmp_eq (tgt := 388) C.x C.b dL_disks_382 dL_disks_383 (by decide) (fun _ => ?_) (fun q9 => absurd (by decide) q9)
  refine lv_iinc (v := (nI 10)) (lv' := [(1, .int (nI 10)), (0, .ref h)]) C.x C.b dL_disks_388 hl (k := 0) rfl (by decide) (by decide) rfl (fun ls hl => ?_)
  refine lv_goto (tgt := 353) C.x C.b dL_disks_391 (by decide) ?_
  refine lv_iload_n C.x C.b dL_disks_353 rfl (lv_at hl 0 rfl) ?_
  refine lv_bipush (v := (nI 17)) C.x C.b dL_disks_354 (by decide) ?_
  refine lv_icmp_ge (tgt := 394) C.x C.b dL_disks_356 (by decide) (fun q9 => absurd q9 (by decide)) (fun _ => ?_)
  refine lv_aload_n C.x C.b dL_disks_359 rfl (lv_at hl 1 rfl) ?_
  refine lv_iconst (v := (nI 5)) C.x C.b dL_disks_360 (by decide) ?_
  refine lv_iload_n C.x C.b dL_disks_361 rfl (lv_at hl 0 rfl) ?_
  refine lv_iload_n C.x C.b dL_disks_362 rfl (lv_at hl 0 rfl) ?_
  refine lv_ineg C.x C.b dL_disks_363 ?_
  refine k_topi (y := (-10)) (by decide) ?_
  refine lv_iconst (v := (nI 1)) C.x C.b dL_disks_364 (by decide) ?_
  refine lv_iconst (v := (nI 0)) C.x C.b dL_disks_365 (by decide) ?_
  refine k_actI (As := [.ref h, .int (nI 5), .int (nI 10), .int (-10), .int (nI 1), .int (nI 0)]) (rest := []) (c2 := 3620) (s2 := 29368) (v := 10) (m1 := hS_disks_17) C hX (act_5 hI.hd (nI 10) (-10) (nI 1) (nI 0) (iop_disk hst hI (nI 10) (-10) (nI 1))) (ev_disk 10 (by decide +kernel) (by decide) rfl rfl) (rfl) (gl_up inv_L_act) rfl hl.1 rfl (by decide) dL_disks_366 ⟨Nat.le_of_ble_eq_true rfl, Nat.le_of_ble_eq_true rfl⟩ ⟨Nat.le_of_ble_eq_true rfl, Nat.le_of_ble_eq_true rfl⟩ rfl rfl (fun f H locs hX hI => ?_)
  refine lv_iload_n C.x C.b dL_disks_369 rfl (lv_at hl 0 rfl) ?_
  refine lv_bipush (v := (nI 16)) C.x C.b dL_disks_370 (by decide) ?_
  refine lv_icmp_ge (tgt := 379) C.x C.b dL_disks_372 (by decide) (fun q9 => absurd q9 (by decide)) (fun _ => ?_)
  refine lv_iload_n C.x C.b dL_disks_375 rfl (lv_at hl 0 rfl) ?_
  refine lv_goto (tgt := 381) C.x C.b dL_disks_376 (by decide) ?_
  refine lv_i2l (v := (nI 10).toInt64) C.x C.b dL_disks_381 rfl ?_
  refine k_topl (y := 10) (by decide) ?_
  refine k_lcmp_eq (tgt := 388) C.x C.b dL_disks_382 dL_disks_383 (by decide) (fun _ => ?_) (fun q9 => absurd (by decide) q9)
  refine lv_iinc (v := (nI 11)) (lv' := [(1, .int (nI 11)), (0, .ref h)]) C.x C.b dL_disks_388 hl (k := 0) rfl (by decide) (by decide) rfl (fun ls hl => ?_)
  refine lv_goto (tgt := 353) C.x C.b dL_disks_391 (by decide) ?_
  refine lv_iload_n C.x C.b dL_disks_353 rfl (lv_at hl 0 rfl) ?_
  refine lv_bipush (v := (nI 17)) C.x C.b dL_disks_354 (by decide) ?_
  refine lv_icmp_ge (tgt := 394) C.x C.b dL_disks_356 (by decide) (fun q9 => absurd q9 (by decide)) (fun _ => ?_)
  refine lv_aload_n C.x C.b dL_disks_359 rfl (lv_at hl 1 rfl) ?_
  refine lv_iconst (v := (nI 5)) C.x C.b dL_disks_360 (by decide) ?_
  refine lv_iload_n C.x C.b dL_disks_361 rfl (lv_at hl 0 rfl) ?_
  refine lv_iload_n C.x C.b dL_disks_362 rfl (lv_at hl 0 rfl) ?_
  refine lv_ineg C.x C.b dL_disks_363 ?_
  refine k_topi (y := (-11)) (by decide) ?_
  refine lv_iconst (v := (nI 1)) C.x C.b dL_disks_364 (by decide) ?_
  refine lv_iconst (v := (nI 0)) C.x C.b dL_disks_365 (by decide) ?_
  refine k_actI (As := [.ref h, .int (nI 5), .int (nI 11), .int (-11), .int (nI 1), .int (nI 0)]) (rest := []) (c2 := 3628) (s2 := 29432) (v := 11) (m1 := hS_disks_18) C hX (act_5 hI.hd (nI 11) (-11) (nI 1) (nI 0) (iop_disk hst hI (nI 11) (-11) (nI 1))) (ev_disk 11 (by decide +kernel) (by decide) rfl rfl) (rfl) (gl_up inv_L_act) rfl hl.1 rfl (by decide) dL_disks_366 ⟨Nat.le_of_ble_eq_true rfl, Nat.le_of_ble_eq_true rfl⟩ ⟨Nat.le_of_ble_eq_true rfl, Nat.le_of_ble_eq_true rfl⟩ rfl rfl (fun f H locs hX hI => ?_)
  refine lv_iload_n C.x C.b dL_disks_369 rfl (lv_at hl 0 rfl) ?_
  refine lv_bipush (v := (nI 16)) C.x C.b dL_disks_370 (by decide) ?_
  refine lv_icmp_ge (tgt := 379) C.x C.b dL_disks_372 (by decide) (fun q9 => absurd q9 (by decide)) (fun _ => ?_)
  refine lv_iload_n C.x C.b dL_disks_375 rfl (lv_at hl 0 rfl) ?_
  refine lv_goto (tgt := 381) C.x C.b dL_disks_376 (by decide) ?_
  refine lv_i2l (v := (nI 11).toInt64) C.x C.b dL_disks_381 rfl ?_
  refine k_topl (y := 11) (by decide) ?_
  refine k_lcmp_eq (tgt := 388) C.x C.b dL_disks_382 dL_disks_383 (by decide) (fun _ => ?_) (fun q9 => absurd (by decide) q9)
  refine lv_iinc (v := (nI 12)) (lv' := [(1, .int (nI 12)), (0, .ref h)]) C.x C.b dL_disks_388 hl (k := 0) rfl (by decide) (by decide) rfl (fun ls hl => ?_)
  refine lv_goto (tgt := 353) C.x C.b dL_disks_391 (by decide) ?_
  refine lv_iload_n C.x C.b dL_disks_353 rfl (lv_at hl 0 rfl) ?_
  refine lv_bipush (v := (nI 17)) C.x C.b dL_disks_354 (by decide) ?_
  refine lv_icmp_ge (tgt := 394) C.x C.b dL_disks_356 (by decide) (fun q9 => absurd q9 (by decide)) (fun _ => ?_)
  refine lv_aload_n C.x C.b dL_disks_359 rfl (lv_at hl 1 rfl) ?_
  refine lv_iconst (v := (nI 5)) C.x C.b dL_disks_360 (by decide) ?_
  refine lv_iload_n C.x C.b dL_disks_361 rfl (lv_at hl 0 rfl) ?_
  refine lv_iload_n C.x C.b dL_disks_362 rfl (lv_at hl 0 rfl) ?_
  refine lv_ineg C.x C.b dL_disks_363 ?_
  refine k_topi (y := (-12)) (by decide) ?_
  refine lv_iconst (v := (nI 1)) C.x C.b dL_disks_364 (by decide) ?_
  refine lv_iconst (v := (nI 0)) C.x C.b dL_disks_365 (by decide) ?_
  refine k_actI (As := [.ref h, .int (nI 5), .int (nI 12), .int (-12), .int (nI 1), .int (nI 0)]) (rest := []) (c2 := 3636) (s2 := 29496) (v := 12) (m1 := hS_disks_19) C hX (act_5 hI.hd (nI 12) (-12) (nI 1) (nI 0) (iop_disk hst hI (nI 12) (-12) (nI 1))) (ev_disk 12 (by decide +kernel) (by decide) rfl rfl) (rfl) (gl_up inv_L_act) rfl hl.1 rfl (by decide) dL_disks_366 ⟨Nat.le_of_ble_eq_true rfl, Nat.le_of_ble_eq_true rfl⟩ ⟨Nat.le_of_ble_eq_true rfl, Nat.le_of_ble_eq_true rfl⟩ rfl rfl (fun f H locs hX hI => ?_)
  refine lv_iload_n C.x C.b dL_disks_369 rfl (lv_at hl 0 rfl) ?_
  refine lv_bipush (v := (nI 16)) C.x C.b dL_disks_370 (by decide) ?_
  refine lv_icmp_ge (tgt := 379) C.x C.b dL_disks_372 (by decide) (fun q9 => absurd q9 (by decide)) (fun _ => ?_)
  refine lv_iload_n C.x C.b dL_disks_375 rfl (lv_at hl 0 rfl) ?_
  refine lv_goto (tgt := 381) C.x C.b dL_disks_376 (by decide) ?_
  refine lv_i2l (v := (nI 12).toInt64) C.x C.b dL_disks_381 rfl ?_
  refine k_topl (y := 12) (by decide) ?_
  refine k_lcmp_eq (tgt := 388) C.x C.b dL_disks_382 dL_disks_383 (by decide) (fun _ => ?_) (fun q9 => absurd (by decide) q9)
  refine lv_iinc (v := (nI 13)) (lv' := [(1, .int (nI 13)), (0, .ref h)]) C.x C.b dL_disks_388 hl (k := 0) rfl (by decide) (by decide) rfl (fun ls hl => ?_)
  refine lv_goto (tgt := 353) C.x C.b dL_disks_391 (by decide) ?_
  refine lv_iload_n C.x C.b dL_disks_353 rfl (lv_at hl 0 rfl) ?_
  refine lv_bipush (v := (nI 17)) C.x C.b dL_disks_354 (by decide) ?_
  refine lv_icmp_ge (tgt := 394) C.x C.b dL_disks_356 (by decide) (fun q9 => absurd q9 (by decide)) (fun _ => ?_)
  refine lv_aload_n C.x C.b dL_disks_359 rfl (lv_at hl 1 rfl) ?_
  refine lv_iconst (v := (nI 5)) C.x C.b dL_disks_360 (by decide) ?_
  refine lv_iload_n C.x C.b dL_disks_361 rfl (lv_at hl 0 rfl) ?_
  refine lv_iload_n C.x C.b dL_disks_362 rfl (lv_at hl 0 rfl) ?_
  refine lv_ineg C.x C.b dL_disks_363 ?_
  refine k_topi (y := (-13)) (by decide) ?_
  refine lv_iconst (v := (nI 1)) C.x C.b dL_disks_364 (by decide) ?_
  refine lv_iconst (v := (nI 0)) C.x C.b dL_disks_365 (by decide) ?_
  refine k_actI (As := [.ref h, .int (nI 5), .int (nI 13), .int (-13), .int (nI 1), .int (nI 0)]) (rest := []) (c2 := 3644) (s2 := 29560) (v := 13) (m1 := hS_disks_20) C hX (act_5 hI.hd (nI 13) (-13) (nI 1) (nI 0) (iop_disk hst hI (nI 13) (-13) (nI 1))) (ev_disk 13 (by decide +kernel) (by decide) rfl rfl) (rfl) (gl_up inv_L_act) rfl hl.1 rfl (by decide) dL_disks_366 ⟨Nat.le_of_ble_eq_true rfl, Nat.le_of_ble_eq_true rfl⟩ ⟨Nat.le_of_ble_eq_true rfl, Nat.le_of_ble_eq_true rfl⟩ rfl rfl (fun f H locs hX hI => ?_)
  refine lv_iload_n C.x C.b dL_disks_369 rfl (lv_at hl 0 rfl) ?_
  refine lv_bipush (v := (nI 16)) C.x C.b dL_disks_370 (by decide) ?_
  refine lv_icmp_ge (tgt := 379) C.x C.b dL_disks_372 (by decide) (fun q9 => absurd q9 (by decide)) (fun _ => ?_)
  refine lv_iload_n C.x C.b dL_disks_375 rfl (lv_at hl 0 rfl) ?_
  refine lv_goto (tgt := 381) C.x C.b dL_disks_376 (by decide) ?_
  refine lv_i2l (v := (nI 13).toInt64) C.x C.b dL_disks_381 rfl ?_
  refine k_topl (y := 13) (by decide) ?_
  refine k_lcmp_eq (tgt := 388) C.x C.b dL_disks_382 dL_disks_383 (by decide) (fun _ => ?_) (fun q9 => absurd (by decide) q9)
  refine lv_iinc (v := (nI 14)) (lv' := [(1, .int (nI 14)), (0, .ref h)]) C.x C.b dL_disks_388 hl (k := 0) rfl (by decide) (by decide) rfl (fun ls hl => ?_)
  refine lv_goto (tgt := 353) C.x C.b dL_disks_391 (by decide) ?_
  refine lv_iload_n C.x C.b dL_disks_353 rfl (lv_at hl 0 rfl) ?_
  refine lv_bipush (v := (nI 17)) C.x C.b dL_disks_354 (by decide) ?_
  refine lv_icmp_ge (tgt := 394) C.x C.b dL_disks_356 (by decide) (fun q9 => absurd q9 (by decide)) (fun _ => ?_)
  refine lv_aload_n C.x C.b dL_disks_359 rfl (lv_at hl 1 rfl) ?_
  refine lv_iconst (v := (nI 5)) C.x C.b dL_disks_360 (by decide) ?_
  refine lv_iload_n C.x C.b dL_disks_361 rfl (lv_at hl 0 rfl) ?_
  refine lv_iload_n C.x C.b dL_disks_362 rfl (lv_at hl 0 rfl) ?_
  refine lv_ineg C.x C.b dL_disks_363 ?_
  refine k_topi (y := (-14)) (by decide) ?_
  refine lv_iconst (v := (nI 1)) C.x C.b dL_disks_364 (by decide) ?_
  refine lv_iconst (v := (nI 0)) C.x C.b dL_disks_365 (by decide) ?_
  refine k_actI (As := [.ref h, .int (nI 5), .int (nI 14), .int (-14), .int (nI 1), .int (nI 0)]) (rest := []) (c2 := 3652) (s2 := 29624) (v := 14) (m1 := hS_disks_21) C hX (act_5 hI.hd (nI 14) (-14) (nI 1) (nI 0) (iop_disk hst hI (nI 14) (-14) (nI 1))) (ev_disk 14 (by decide +kernel) (by decide) rfl rfl) (rfl) (gl_up inv_L_act) rfl hl.1 rfl (by decide) dL_disks_366 ⟨Nat.le_of_ble_eq_true rfl, Nat.le_of_ble_eq_true rfl⟩ ⟨Nat.le_of_ble_eq_true rfl, Nat.le_of_ble_eq_true rfl⟩ rfl rfl (fun f H locs hX hI => ?_)
  refine lv_iload_n C.x C.b dL_disks_369 rfl (lv_at hl 0 rfl) ?_
  refine lv_bipush (v := (nI 16)) C.x C.b dL_disks_370 (by decide) ?_
  refine lv_icmp_ge (tgt := 379) C.x C.b dL_disks_372 (by decide) (fun q9 => absurd q9 (by decide)) (fun _ => ?_)
  refine lv_iload_n C.x C.b dL_disks_375 rfl (lv_at hl 0 rfl) ?_
  refine lv_goto (tgt := 381) C.x C.b dL_disks_376 (by decide) ?_
  refine lv_i2l (v := (nI 14).toInt64) C.x C.b dL_disks_381 rfl ?_
  refine k_topl (y := 14) (by decide) ?_
  refine k_lcmp_eq (tgt := 388) C.x C.b dL_disks_382 dL_disks_383 (by decide) (fun _ => ?_) (fun q9 => absurd (by decide) q9)
  refine lv_iinc (v := (nI 15)) (lv' := [(1, .int (nI 15)), (0, .ref h)]) C.x C.b dL_disks_388 hl (k := 0) rfl (by decide) (by decide) rfl (fun ls hl => ?_)
  refine lv_goto (tgt := 353) C.x C.b dL_disks_391 (by decide) ?_
  refine lv_iload_n C.x C.b dL_disks_353 rfl (lv_at hl 0 rfl) ?_
  refine lv_bipush (v := (nI 17)) C.x C.b dL_disks_354 (by decide) ?_
  refine lv_icmp_ge (tgt := 394) C.x C.b dL_disks_356 (by decide) (fun q9 => absurd q9 (by decide)) (fun _ => ?_)
  refine lv_aload_n C.x C.b dL_disks_359 rfl (lv_at hl 1 rfl) ?_
  refine lv_iconst (v := (nI 5)) C.x C.b dL_disks_360 (by decide) ?_
  refine lv_iload_n C.x C.b dL_disks_361 rfl (lv_at hl 0 rfl) ?_
  refine lv_iload_n C.x C.b dL_disks_362 rfl (lv_at hl 0 rfl) ?_
  refine lv_ineg C.x C.b dL_disks_363 ?_
  refine k_topi (y := (-15)) (by decide) ?_
  refine lv_iconst (v := (nI 1)) C.x C.b dL_disks_364 (by decide) ?_
  refine lv_iconst (v := (nI 0)) C.x C.b dL_disks_365 (by decide) ?_
  refine k_actI (As := [.ref h, .int (nI 5), .int (nI 15), .int (-15), .int (nI 1), .int (nI 0)]) (rest := []) (c2 := 3660) (s2 := 29688) (v := 15) (m1 := hS_disks_22) C hX (act_5 hI.hd (nI 15) (-15) (nI 1) (nI 0) (iop_disk hst hI (nI 15) (-15) (nI 1))) (ev_disk 15 (by decide +kernel) (by decide) rfl rfl) (rfl) (gl_up inv_L_act) rfl hl.1 rfl (by decide) dL_disks_366 ⟨Nat.le_of_ble_eq_true rfl, Nat.le_of_ble_eq_true rfl⟩ ⟨Nat.le_of_ble_eq_true rfl, Nat.le_of_ble_eq_true rfl⟩ rfl rfl (fun f H locs hX hI => ?_)
  refine lv_iload_n C.x C.b dL_disks_369 rfl (lv_at hl 0 rfl) ?_
  refine lv_bipush (v := (nI 16)) C.x C.b dL_disks_370 (by decide) ?_
  refine lv_icmp_ge (tgt := 379) C.x C.b dL_disks_372 (by decide) (fun q9 => absurd q9 (by decide)) (fun _ => ?_)
  refine lv_iload_n C.x C.b dL_disks_375 rfl (lv_at hl 0 rfl) ?_
  refine lv_goto (tgt := 381) C.x C.b dL_disks_376 (by decide) ?_
  refine lv_i2l (v := (nI 15).toInt64) C.x C.b dL_disks_381 rfl ?_
  refine k_topl (y := 15) (by decide) ?_
  refine k_lcmp_eq (tgt := 388) C.x C.b dL_disks_382 dL_disks_383 (by decide) (fun _ => ?_) (fun q9 => absurd (by decide) q9)
  refine lv_iinc (v := (nI 16)) (lv' := [(1, .int (nI 16)), (0, .ref h)]) C.x C.b dL_disks_388 hl (k := 0) rfl (by decide) (by decide) rfl (fun ls hl => ?_)
  refine lv_goto (tgt := 353) C.x C.b dL_disks_391 (by decide) ?_
  refine lv_iload_n C.x C.b dL_disks_353 rfl (lv_at hl 0 rfl) ?_
  refine lv_bipush (v := (nI 17)) C.x C.b dL_disks_354 (by decide) ?_
  refine lv_icmp_ge (tgt := 394) C.x C.b dL_disks_356 (by decide) (fun q9 => absurd q9 (by decide)) (fun _ => ?_)
  refine lv_aload_n C.x C.b dL_disks_359 rfl (lv_at hl 1 rfl) ?_
  refine lv_iconst (v := (nI 5)) C.x C.b dL_disks_360 (by decide) ?_
  refine lv_iload_n C.x C.b dL_disks_361 rfl (lv_at hl 0 rfl) ?_
  refine lv_iload_n C.x C.b dL_disks_362 rfl (lv_at hl 0 rfl) ?_
  refine lv_ineg C.x C.b dL_disks_363 ?_
  refine k_topi (y := (-16)) (by decide) ?_
  refine lv_iconst (v := (nI 1)) C.x C.b dL_disks_364 (by decide) ?_
  refine lv_iconst (v := (nI 0)) C.x C.b dL_disks_365 (by decide) ?_
  refine k_actI (As := [.ref h, .int (nI 5), .int (nI 16), .int (-16), .int (nI 1), .int (nI 0)]) (rest := []) (c2 := 3668) (s2 := 29752) (v := (-7000003)) (m1 := hS_disks_22) C hX (act_5 hI.hd (nI 16) (-16) (nI 1) (nI 0) (iop_disk hst hI (nI 16) (-16) (nI 1))) (e_disk_s (by decide +kernel) (by decide +kernel)) (rfl) (gl_up inv_L_act) rfl hl.1 rfl (by decide) dL_disks_366 ⟨Nat.le_of_ble_eq_true rfl, Nat.le_of_ble_eq_true rfl⟩ ⟨Nat.le_of_ble_eq_true rfl, Nat.le_of_ble_eq_true rfl⟩ rfl rfl (fun f H locs hX hI => ?_)
  refine lv_iload_n C.x C.b dL_disks_369 rfl (lv_at hl 0 rfl) ?_
  refine lv_bipush (v := (nI 16)) C.x C.b dL_disks_370 (by decide) ?_
  refine lv_icmp_ge (tgt := 379) C.x C.b dL_disks_372 (by decide) (fun _ => ?_) (fun q9 => absurd (by decide) q9)
  refine lv_ldc (v := (-7000003)) C.x C.b C.ow (C.ts _ (List.mem_cons_of_mem _ lkC_3)) dL_disks_379 ?_
  refine lv_i2l (v := (-7000003).toInt64) C.x C.b dL_disks_381 rfl ?_
  refine k_topl (y := (-7000003)) (by decide) ?_
  refine k_lcmp_eq (tgt := 388) C.x C.b dL_disks_382 dL_disks_383 (by decide) (fun _ => ?_) (fun q9 => absurd (by decide) q9)
  refine lv_iinc (v := (nI 17)) (lv' := [(1, .int (nI 17)), (0, .ref h)]) C.x C.b dL_disks_388 hl (k := 0) rfl (by decide) (by decide) rfl (fun ls hl => ?_)
  refine lv_goto (tgt := 353) C.x C.b dL_disks_391 (by decide) ?_
  refine lv_iload_n C.x C.b dL_disks_353 rfl (lv_at hl 0 rfl) ?_
  refine lv_bipush (v := (nI 17)) C.x C.b dL_disks_354 (by decide) ?_
  refine lv_icmp_ge (tgt := 394) C.x C.b dL_disks_356 (by decide) (fun _ => ?_) (fun q9 => absurd (by decide) q9)
  refine lv_aload_n C.x C.b dL_disks_394 rfl (lv_at hl 1 rfl) ?_
  refine lv_bipush (v := (nI 6)) C.x C.b dL_disks_395 (by decide) ?_
  refine lv_bipush (v := (nI 7)) C.x C.b dL_disks_397 (by decide) ?_
  refine k_cI (As := [.int (nI 6), .int (nI 7)]) (rest := []) (c2 := 3676) (s2 := 29816) (v := (nI 2)) (m1 := hS_disks_22) C hX (iop_lie hst hI (nI 6) (nI 7)) (ev_lie (by decide +kernel) (by decide +kernel) (by decide +kernel)) hI.hd (gl_up inv_X8_lie) rfl ⟨rfl, hdA_X8_lie⟩ (by decide) rfl hl.1 rfl (by decide) dL_disks_399 ⟨Nat.le_of_ble_eq_true rfl, Nat.le_of_ble_eq_true rfl⟩ ⟨Nat.le_of_ble_eq_true rfl, Nat.le_of_ble_eq_true rfl⟩ rfl rfl (fun f H locs hX hI => ?_)
  refine lv_iconst (v := (nI 2)) C.x C.b dL_disks_402 (by decide) ?_
  refine lv_icmp_ne (tgt := 443) C.x C.b dL_disks_403 (by decide) (fun q9 => absurd (by decide) q9) (fun _ => ?_)
  refine lv_aload_n C.x C.b dL_disks_406 rfl (lv_at hl 1 rfl) ?_
  refine lv_bipush (v := (nI 6)) C.x C.b dL_disks_407 (by decide) ?_
  refine lv_bipush (v := (nI 8)) C.x C.b dL_disks_409 (by decide) ?_
  refine k_cI (As := [.int (nI 6), .int (nI 8)]) (rest := []) (c2 := 3684) (s2 := 29880) (v := (nI 0)) (m1 := hS_disks_22) C hX (iop_lie hst hI (nI 6) (nI 8)) (ev_lie (by decide +kernel) (by decide +kernel) (by decide +kernel)) hI.hd (gl_up inv_X8_lie) rfl ⟨rfl, hdA_X8_lie⟩ (by decide) rfl hl.1 rfl (by decide) dL_disks_411 ⟨Nat.le_of_ble_eq_true rfl, Nat.le_of_ble_eq_true rfl⟩ ⟨Nat.le_of_ble_eq_true rfl, Nat.le_of_ble_eq_true rfl⟩ rfl rfl (fun f H locs hX hI => ?_)
  refine lv_if_ne (tgt := 443) C.x C.b dL_disks_414 (by decide) (fun q9 => absurd (by decide) q9) (fun _ => ?_)
  refine lv_aload_n C.x C.b dL_disks_417 rfl (lv_at hl 1 rfl) ?_
  refine lv_iconst (v := (nI 0)) C.x C.b dL_disks_418 (by decide) ?_
  refine k_cI (As := [.int (nI 0)]) (rest := []) (c2 := 3692) (s2 := 29944) (v := (nI 94)) (m1 := hS_disks_22) C hX (iop_pairs hst hI (nI 0)) (ev_pairs (by decide +kernel) (by decide +kernel)) hI.hd (gl_up inv_X8_pairs) rfl ⟨rfl, hdA_X8_pairs⟩ (by decide) rfl hl.1 rfl (by decide) dL_disks_419 ⟨Nat.le_of_ble_eq_true rfl, Nat.le_of_ble_eq_true rfl⟩ ⟨Nat.le_of_ble_eq_true rfl, Nat.le_of_ble_eq_true rfl⟩ rfl rfl (fun f H locs hX hI => ?_)
  refine lv_aload_n C.x C.b dL_disks_422 rfl (lv_at hl 1 rfl) ?_
  refine lv_iconst (v := (nI 1)) C.x C.b dL_disks_423 (by decide) ?_
  refine k_cI (As := [.int (nI 1)]) (rest := [.int (nI 94)]) (c2 := 3700) (s2 := 30008) (v := (nI 6)) (m1 := hS_disks_22) C hX (iop_pairs hst hI (nI 1)) (ev_pairs (by decide +kernel) (by decide +kernel)) hI.hd (gl_up inv_X8_pairs) rfl ⟨rfl, hdA_X8_pairs⟩ (by decide) rfl hl.1 rfl (by decide) dL_disks_424 ⟨Nat.le_of_ble_eq_true rfl, Nat.le_of_ble_eq_true rfl⟩ ⟨Nat.le_of_ble_eq_true rfl, Nat.le_of_ble_eq_true rfl⟩ rfl rfl (fun f H locs hX hI => ?_)
  refine lv_iadd C.x C.b dL_disks_427 ?_
  refine k_topi (y := (nI 100)) (by decide) ?_
  refine lv_aload_n C.x C.b dL_disks_428 rfl (lv_at hl 1 rfl) ?_
  refine lv_iconst (v := (nI 2)) C.x C.b dL_disks_429 (by decide) ?_
  refine k_cI (As := [.int (nI 2)]) (rest := [.int (nI 100)]) (c2 := 3708) (s2 := 30072) (v := (nI 20)) (m1 := hS_disks_22) C hX (iop_pairs hst hI (nI 2)) (ev_pairs (by decide +kernel) (by decide +kernel)) hI.hd (gl_up inv_X8_pairs) rfl ⟨rfl, hdA_X8_pairs⟩ (by decide) rfl hl.1 rfl (by decide) dL_disks_430 ⟨Nat.le_of_ble_eq_true rfl, Nat.le_of_ble_eq_true rfl⟩ ⟨Nat.le_of_ble_eq_true rfl, Nat.le_of_ble_eq_true rfl⟩ rfl rfl (fun f H locs hX hI => ?_)
  refine lv_iadd C.x C.b dL_disks_433 ?_
  refine k_topi (y := (nI 120)) (by decide) ?_
  refine lv_bipush (v := (nI 120)) C.x C.b dL_disks_434 (by decide) ?_
  refine lv_icmp_ne (tgt := 443) C.x C.b dL_disks_436 (by decide) (fun q9 => absurd (by decide) q9) (fun _ => ?_)
  refine lv_iconst (v := (nI 1)) C.x C.b dL_disks_439 (by decide) ?_
  refine lv_goto (tgt := 444) C.x C.b dL_disks_440 (by decide) ?_
  exact k_zret C hX hr hlocks hQ (Nat.le_of_ble_eq_true rfl) (Nat.le_of_ble_eq_true rfl) (Or.inr rfl) ⟨rfl, trivial⟩ dL_disks_444
