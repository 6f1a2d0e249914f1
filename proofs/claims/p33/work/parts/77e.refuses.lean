set_option maxHeartbeats 16000000 in
set_option maxRecDepth 100000 in
theorem pL_refuses {l : Launch} (hst : l.stackTraces = false) {G : kG} {B0 h : Nat} {f : kH} {m : pSt} (hI : Inv G h f m) : Met l yL_refuses wsP_refuses rmR (kP G B0 f [.ref h, .int (nI m.nd), .int (nI m.ng), .int (nI m.nm), .int (nI m.nc), .int (nI m.nw)]) (kQi G B0 (fun r f1 => r = nI 1 ∧ Inv G h f1 m)) 3300 26400 (kAb B0) := by
  refine kMet (cc := cL_refuses) (maxL := 24) (ret := (some .boolean)) (by decide) rfl (Nat.le_of_ble_eq_true rfl) ?_
  intro p e s mi args below meth c H locs Q ls C hX hl hr hlocks hnm hQ
  have hl : lv_has ls 24 [(0, .ref h), (1, .int (nI m.nd)), (2, .int (nI m.ng)), (3, .int (nI m.nm)), (4, .int (nI m.nc)), (5, .int (nI m.nw))] := hl
  obtain ⟨b4, b16, bf, bd, bg, bm, bc2, bc6, bw⟩ := hI.bd
  refine lv_ldc (v := (nI 2147483647)) C.x C.b C.ow (C.ts _ (List.mem_cons_of_mem _ lkC_106)) dL_refuses_0 ?_
  refine lv_istore (lv' := [(6, .int (nI 2147483647)), (0, .ref h), (1, .int (nI m.nd)), (2, .int (nI m.ng)), (3, .int (nI m.nm)), (4, .int (nI m.nc)), (5, .int (nI m.nw))]) C.x C.b dL_refuses_2 hl (by decide) rfl (fun ls hl => ?_)
  refine lv_aload_n C.x C.b dL_refuses_4 rfl (lv_at hl 1 rfl) ?_
  refine lv_iconst (v := (nI 0)) C.x C.b dL_refuses_5 (by decide) ?_
  refine k_cI (As := [.int (nI 0)]) (rest := []) (c2 := 8) (s2 := 64) (v := (nI m.cc)) (m1 := m) C hX (iop_net hst hI (nI 0)) (e_net0) hI.hd (gl_up inv_X8_net) rfl ⟨rfl, hdA_X8_net⟩ (by decide) rfl hl.1 rfl (by decide) dL_refuses_6 ⟨Nat.le_of_ble_eq_true rfl, Nat.le_of_ble_eq_true rfl⟩ ⟨Nat.le_of_ble_eq_true rfl, Nat.le_of_ble_eq_true rfl⟩ rfl rfl (fun f H locs hX hI => ?_)
  refine lv_istore (lv' := [(7, .int (nI m.cc)), (6, .int (nI 2147483647)), (0, .ref h), (1, .int (nI m.nd)), (2, .int (nI m.ng)), (3, .int (nI m.nm)), (4, .int (nI m.nc)), (5, .int (nI m.nw))]) C.x C.b dL_refuses_9 hl (by decide) rfl (fun ls hl => ?_)
  refine lv_aload_n C.x C.b dL_refuses_11 rfl (lv_at hl 2 rfl) ?_
  refine lv_iconst (v := (nI 2)) C.x C.b dL_refuses_12 (by decide) ?_
  refine k_cI (As := [.int (nI 2)]) (rest := []) (c2 := 16) (s2 := 128) (v := (nI m.fc)) (m1 := m) C hX (iop_net hst hI (nI 2)) (e_net2) hI.hd (gl_up inv_X8_net) rfl ⟨rfl, hdA_X8_net⟩ (by decide) rfl hl.1 rfl (by decide) dL_refuses_13 ⟨Nat.le_of_ble_eq_true rfl, Nat.le_of_ble_eq_true rfl⟩ ⟨Nat.le_of_ble_eq_true rfl, Nat.le_of_ble_eq_true rfl⟩ rfl rfl (fun f H locs hX hI => ?_)
  refine lv_istore (lv' := [(8, .int (nI m.fc)), (7, .int (nI m.cc)), (6, .int (nI 2147483647)), (0, .ref h), (1, .int (nI m.nd)), (2, .int (nI m.ng)), (3, .int (nI m.nm)), (4, .int (nI m.nc)), (5, .int (nI m.nw))]) C.x C.b dL_refuses_16 hl (by decide) rfl (fun ls hl => ?_)
  refine lv_aload_n C.x C.b dL_refuses_18 rfl (lv_at hl 3 rfl) ?_
  refine k_cI (As := []) (rest := []) (c2 := 24) (s2 := 192) (v := (nI (mTrees m.ea m.eb m.nc m.nw))) (m1 := m) C hX (iop_trees hst hI) (rfl) hI.hd (gl_up inv_X8_trees) rfl ⟨rfl, hdA_X8_trees⟩ (by decide) rfl hl.1 rfl (by decide) dL_refuses_19 ⟨Nat.le_of_ble_eq_true rfl, Nat.le_of_ble_eq_true rfl⟩ ⟨Nat.le_of_ble_eq_true rfl, Nat.le_of_ble_eq_true rfl⟩ rfl rfl (fun f H locs hX hI => ?_)
  refine lv_istore (lv' := [(9, .int (nI (mTrees m.ea m.eb m.nc m.nw))), (8, .int (nI m.fc)), (7, .int (nI m.cc)), (6, .int (nI 2147483647)), (0, .ref h), (1, .int (nI m.nd)), (2, .int (nI m.ng)), (3, .int (nI m.nm)), (4, .int (nI m.nc)), (5, .int (nI m.nw))]) C.x C.b dL_refuses_22 hl (by decide) rfl (fun ls hl => ?_)
  refine lv_aload_n C.x C.b dL_refuses_24 rfl (lv_at hl 4 rfl) ?_
  refine lv_iconst (v := (nI 0)) C.x C.b dL_refuses_25 (by decide) ?_
  refine k_cI (As := [.int (nI 0)]) (rest := []) (c2 := 32) (s2 := 256) (v := ((m.pr 0).toInt32)) (m1 := m) C hX (iop_word hst hI (nI 0)) (e_word0) hI.hd (gl_up inv_X8_word) rfl ⟨rfl, hdA_X8_word⟩ (by decide) rfl hl.1 rfl (by decide) dL_refuses_26 ⟨Nat.le_of_ble_eq_true rfl, Nat.le_of_ble_eq_true rfl⟩ ⟨Nat.le_of_ble_eq_true rfl, Nat.le_of_ble_eq_true rfl⟩ rfl rfl (fun f H locs hX hI => ?_)
  refine lv_istore (lv' := [(10, .int ((m.pr 0).toInt32)), (9, .int (nI (mTrees m.ea m.eb m.nc m.nw))), (8, .int (nI m.fc)), (7, .int (nI m.cc)), (6, .int (nI 2147483647)), (0, .ref h), (1, .int (nI m.nd)), (2, .int (nI m.ng)), (3, .int (nI m.nm)), (4, .int (nI m.nc)), (5, .int (nI m.nw))]) C.x C.b dL_refuses_29 hl (by decide) rfl (fun ls hl => ?_)
  refine lv_iconst (v := (nI 0)) C.x C.b dL_refuses_31 (by decide) ?_
  refine lv_istore (lv' := [(11, .int (nI 0)), (10, .int ((m.pr 0).toInt32)), (9, .int (nI (mTrees m.ea m.eb m.nc m.nw))), (8, .int (nI m.fc)), (7, .int (nI m.cc)), (6, .int (nI 2147483647)), (0, .ref h), (1, .int (nI m.nd)), (2, .int (nI m.ng)), (3, .int (nI m.nm)), (4, .int (nI m.nc)), (5, .int (nI m.nw))]) C.x C.b dL_refuses_32 hl (by decide) rfl (fun ls hl => ?_)
  refine W.widen (k := 32) (n := 256) (by decide) (by decide) ?_
  refine ref_0 hst C hX hI hl (fun f H locs ls hX hI hl => ?_)
  refine ref_1 hst C hX hI hl (fun f H locs ls hX hI hl => ?_)
  refine ref_2 hst C hX hI hl (fun f H locs ls hX hI hl => ?_)
  refine ref_3 hst C hX hI hl (fun f H locs ls hX hI hl => ?_)
  refine lv_iload C.x C.b dL_refuses_34 (lv_at hl 0 rfl) ?_
  refine lv_iconst (v := (nI 4)) C.x C.b dL_refuses_36 (by decide) ?_
  refine lv_icmp_ge (tgt := 1421) C.x C.b dL_refuses_37 (by decide) (fun _ => ?_) (fun q9 => absurd (by decide) q9)
  refine lv_aload_n C.x C.b dL_refuses_1421 rfl (lv_at hl 6 rfl) ?_
  refine lv_iconst (v := (nI 0)) C.x C.b dL_refuses_1422 (by decide) ?_
  refine k_cI (As := [.int (nI 0)]) (rest := []) (c2 := 3240) (s2 := 25920) (v := (nI m.cc)) (m1 := m) C hX (iop_net hst hI (nI 0)) (e_net0) hI.hd (gl_up inv_X8_net) rfl ⟨rfl, hdA_X8_net⟩ (by decide) rfl hl.1 rfl (by decide) dL_refuses_1423 ⟨Nat.le_of_ble_eq_true rfl, Nat.le_of_ble_eq_true rfl⟩ ⟨Nat.le_of_ble_eq_true rfl, Nat.le_of_ble_eq_true rfl⟩ rfl rfl (fun f H locs hX hI => ?_)
  refine lv_iload C.x C.b dL_refuses_1426 (lv_at hl 4 rfl) ?_
  refine lv_icmp_ne (tgt := 1473) C.x C.b dL_refuses_1428 (by decide) (fun q9 => absurd (rfl) q9) (fun _ => ?_)
  refine lv_aload_n C.x C.b dL_refuses_1431 rfl (lv_at hl 6 rfl) ?_
  refine lv_iconst (v := (nI 2)) C.x C.b dL_refuses_1432 (by decide) ?_
  refine k_cI (As := [.int (nI 2)]) (rest := []) (c2 := 3248) (s2 := 25984) (v := (nI m.fc)) (m1 := m) C hX (iop_net hst hI (nI 2)) (e_net2) hI.hd (gl_up inv_X8_net) rfl ⟨rfl, hdA_X8_net⟩ (by decide) rfl hl.1 rfl (by decide) dL_refuses_1433 ⟨Nat.le_of_ble_eq_true rfl, Nat.le_of_ble_eq_true rfl⟩ ⟨Nat.le_of_ble_eq_true rfl, Nat.le_of_ble_eq_true rfl⟩ rfl rfl (fun f H locs hX hI => ?_)
  refine lv_iload C.x C.b dL_refuses_1436 (lv_at hl 3 rfl) ?_
  refine lv_icmp_ne (tgt := 1473) C.x C.b dL_refuses_1438 (by decide) (fun q9 => absurd (rfl) q9) (fun _ => ?_)
  refine lv_aload_n C.x C.b dL_refuses_1441 rfl (lv_at hl 6 rfl) ?_
  refine k_cI (As := []) (rest := []) (c2 := 3256) (s2 := 26048) (v := (nI (mTrees m.ea m.eb m.nc m.nw))) (m1 := m) C hX (iop_trees hst hI) (rfl) hI.hd (gl_up inv_X8_trees) rfl ⟨rfl, hdA_X8_trees⟩ (by decide) rfl hl.1 rfl (by decide) dL_refuses_1442 ⟨Nat.le_of_ble_eq_true rfl, Nat.le_of_ble_eq_true rfl⟩ ⟨Nat.le_of_ble_eq_true rfl, Nat.le_of_ble_eq_true rfl⟩ rfl rfl (fun f H locs hX hI => ?_)
  refine lv_iload C.x C.b dL_refuses_1445 (lv_at hl 2 rfl) ?_
  refine lv_icmp_ne (tgt := 1473) C.x C.b dL_refuses_1447 (by decide) (fun q9 => absurd (rfl) q9) (fun _ => ?_)
  refine lv_aload_n C.x C.b dL_refuses_1450 rfl (lv_at hl 6 rfl) ?_
  refine k_cI (As := []) (rest := []) (c2 := 3264) (s2 := 26112) (v := (nI (mTrees m.ea m.eb m.nc m.nw))) (m1 := m) C hX (iop_treesAnew hst hI) (rfl) hI.hd (gl_up inv_X8_treesAnew) rfl ⟨rfl, hdA_X8_treesAnew⟩ (by decide) rfl hl.1 rfl (by decide) dL_refuses_1451 ⟨Nat.le_of_ble_eq_true rfl, Nat.le_of_ble_eq_true rfl⟩ ⟨Nat.le_of_ble_eq_true rfl, Nat.le_of_ble_eq_true rfl⟩ rfl rfl (fun f H locs hX hI => ?_)
  refine lv_iload C.x C.b dL_refuses_1454 (lv_at hl 2 rfl) ?_
  refine lv_icmp_ne (tgt := 1473) C.x C.b dL_refuses_1456 (by decide) (fun q9 => absurd (rfl) q9) (fun _ => ?_)
  refine lv_aload_n C.x C.b dL_refuses_1459 rfl (lv_at hl 6 rfl) ?_
  refine lv_iconst (v := (nI 0)) C.x C.b dL_refuses_1460 (by decide) ?_
  refine k_cI (As := [.int (nI 0)]) (rest := []) (c2 := 3272) (s2 := 26176) (v := ((m.pr 0).toInt32)) (m1 := m) C hX (iop_word hst hI (nI 0)) (e_word0) hI.hd (gl_up inv_X8_word) rfl ⟨rfl, hdA_X8_word⟩ (by decide) rfl hl.1 rfl (by decide) dL_refuses_1461 ⟨Nat.le_of_ble_eq_true rfl, Nat.le_of_ble_eq_true rfl⟩ ⟨Nat.le_of_ble_eq_true rfl, Nat.le_of_ble_eq_true rfl⟩ rfl rfl (fun f H locs hX hI => ?_)
  refine lv_iload C.x C.b dL_refuses_1464 (lv_at hl 1 rfl) ?_
  refine lv_icmp_ne (tgt := 1473) C.x C.b dL_refuses_1466 (by decide) (fun q9 => absurd (rfl) q9) (fun _ => ?_)
  refine lv_iconst (v := (nI 1)) C.x C.b dL_refuses_1469 (by decide) ?_
  refine lv_goto (tgt := 1474) C.x C.b dL_refuses_1470 (by decide) ?_
  exact k_zret C hX hr hlocks hQ (Nat.le_of_ble_eq_true rfl) (Nat.le_of_ble_eq_true rfl) (Or.inr rfl) ⟨rfl, hI⟩ dL_refuses_1474
