/-! the law's drawn calls: 82b.lawcase -/
section LW1
variable {p : Program} {l : Launch} {e : Env} {R : Room} {s : State} {mi : MethodId} {args : Array Value} {below : List Frame} {meth : Method} {c : Code} {H : Heap} {locs : List Loc} {cells slots : Nat} {Q : State → Prop}
variable {ls : Array Slot} {G : kG} {B0 h b k x y z : Nat} {f : kH} {m : pSt}
set_option maxHeartbeats 8000000 in
set_option maxRecDepth 100000 in
theorem law_tD (hst : l.stackTraces = false) (C : kC G B0 p mi c cL_law 18 s args wsL_law RL) (hX : kX G B0 s f H locs) (hR : 400 ≤ R.frames ∧ 24000 ≤ R.locals) (hcl : cells + 500 ≤ R.cells ∧ slots + 4000 ≤ R.slots) (hI : Inv G h f m) (hd : dInv m) (hx : x < 16777216) (hy : y < 16777216) (hz : z < 16777216) (hl : lv_has ls 18 [(0, .ref b), (1, .ref h), (2, .int (nI m.nd)), (3, .int (nI m.ng)), (4, .int (nI m.nm)), (5, .int (nI m.nc)), (6, .int (nI m.nw)), (7, .int (nI k))])
    (K : ∀ (f1 : kH) (H1 : Heap) (locs1 : List Loc) (m1 : pSt) (ls1 : Array Slot), kX G B0 s f1 H1 locs1 → Inv G h f1 m1 → dInv m1 → lv_has ls1 18 (lwB b h m1 k) → W p l e R s mi args below meth c H1 locs1 (cells + 500) (slots + 4000) Q (F0 mi 1207 ls1 [])) : W p l e R s mi args below meth c H locs cells slots Q (F0 mi 441 ls []) := by
  obtain ⟨b4, b16, bf, bd, bg, bm, bc2, bc6, bw⟩ := hI.bd
  obtain ⟨th, hT⟩ := hI.nsa
  refine lv_aload_n C.x C.b dL_law_441 rfl (lv_at hl 1 rfl) ?_
  refine lv_iconst (v := (nI 0)) C.x C.b dL_law_442 (by decide) ?_
  refine k_cI (As := [.int (nI 0)]) (rest := []) (c2 := cells + 8) (s2 := slots + 64) (v := (nI (pC m 0))) (m1 := m) C hX (iop_pairs hst hI (nI 0)) ((e_pairs m).1) hI.hd (gl_same inv_X8_pairs) rfl ⟨rfl, hdA_X8_pairs⟩ (by decide) rfl hl.1 rfl (Nat.le_of_ble_eq_true rfl) dL_law_443 ⟨by omega, by omega⟩ ⟨by omega, by omega⟩ (by omega) (by omega) (fun f H locs hX hI => ?_)
  refine lv_aload_n C.x C.b dL_law_446 rfl (lv_at hl 1 rfl) ?_
  refine lv_iconst (v := (nI 1)) C.x C.b dL_law_447 (by decide) ?_
  refine k_cI (As := [.int (nI 1)]) (rest := [.int (nI (pC m 0))]) (c2 := cells + 16) (s2 := slots + 128) (v := (nI (pC m 1))) (m1 := m) C hX (iop_pairs hst hI (nI 1)) ((e_pairs m).2.1) hI.hd (gl_same inv_X8_pairs) rfl ⟨rfl, hdA_X8_pairs⟩ (by decide) rfl hl.1 rfl (Nat.le_of_ble_eq_true rfl) dL_law_448 ⟨by omega, by omega⟩ ⟨by omega, by omega⟩ (by omega) (by omega) (fun f H locs hX hI => ?_)
  refine lv_iadd C.x C.b dL_law_451 ?_
  refine lv_aload_n C.x C.b dL_law_452 rfl (lv_at hl 1 rfl) ?_
  refine lv_iconst (v := (nI 2)) C.x C.b dL_law_453 (by decide) ?_
  refine k_cI (As := [.int (nI 2)]) (rest := [.int ((nI (pC m 0)) + (nI (pC m 1)))]) (c2 := cells + 24) (s2 := slots + 192) (v := (nI (pC m 2))) (m1 := m) C hX (iop_pairs hst hI (nI 2)) ((e_pairs m).2.2) hI.hd (gl_same inv_X8_pairs) rfl ⟨rfl, hdA_X8_pairs⟩ (by decide) rfl hl.1 rfl (Nat.le_of_ble_eq_true rfl) dL_law_454 ⟨by omega, by omega⟩ ⟨by omega, by omega⟩ (by omega) (by omega) (fun f H locs hX hI => ?_)
  refine lv_iadd C.x C.b dL_law_457 ?_
  refine lv_iload_n C.x C.b dL_law_458 rfl (lv_at hl 2 rfl) ?_
  refine lv_iload_n C.x C.b dL_law_459 rfl (lv_at hl 2 rfl) ?_
  refine lv_iconst (v := (nI 1)) C.x C.b dL_law_460 (by decide) ?_
  refine lv_isub C.x C.b dL_law_461 ?_
  refine lv_imul C.x C.b dL_law_462 ?_
  refine lv_iconst (v := (nI 2)) C.x C.b dL_law_463 (by decide) ?_
  refine lv_idiv C.x C.b dL_law_464 (by decide) ?_
  refine lv_icmp_ne (tgt := 488) C.x C.b dL_law_465 (by decide) (fun q9 => absurd (tri_law bd) q9) (fun _ => ?_)
  refine lv_aload_n C.x C.b dL_law_468 rfl (lv_at hl 1 rfl) ?_
  by_cases qd : mDr m.fa m.dx m.dy m.dr m.fc m.cc m.nd m.nd
  ·
    refine k_cI (As := []) (rest := []) (c2 := cells + 32) (s2 := slots + 256) (v := (nI 1)) (m1 := m) C hX (iop_draws hst hI) (e_draws_y qd) hI.hd (gl_same inv_X8_draws) rfl ⟨rfl, hdA_X8_draws⟩ (by decide) rfl hl.1 rfl (Nat.le_of_ble_eq_true rfl) dL_law_469 ⟨by omega, by omega⟩ ⟨by omega, by omega⟩ (by omega) (by omega) (fun f H locs hX hI => ?_)
    refine lv_if_eq (tgt := 490) C.x C.b dL_law_472 (by decide) (fun q9 => absurd q9 (by decide)) (fun _ => ?_)
    refine lv_aload_n C.x C.b dL_law_475 rfl (lv_at hl 1 rfl) ?_
    refine lv_iconst (v := (nI 1)) C.x C.b dL_law_476 (by decide) ?_
    refine k_cI (As := [.int (nI 1)]) (rest := []) (c2 := cells + 40) (s2 := slots + 320) (v := (nI (pC m 1))) (m1 := m) C hX (iop_pairs hst hI (nI 1)) ((e_pairs m).2.1) hI.hd (gl_same inv_X8_pairs) rfl ⟨rfl, hdA_X8_pairs⟩ (by decide) rfl hl.1 rfl (Nat.le_of_ble_eq_true rfl) dL_law_477 ⟨by omega, by omega⟩ ⟨by omega, by omega⟩ (by omega) (by omega) (fun f H locs hX hI => ?_)
    refine lv_aload_n C.x C.b dL_law_480 rfl (lv_at hl 1 rfl) ?_
    refine lv_iconst (v := (nI 1)) C.x C.b dL_law_481 (by decide) ?_
    refine k_cI (As := [.int (nI 1)]) (rest := [.int (nI (pC m 1))]) (c2 := cells + 48) (s2 := slots + 384) (v := (nI (3 * m.cc - 6))) (m1 := m) C hX (iop_net hst hI (nI 1)) (e_net1) hI.hd (gl_same inv_X8_net) rfl ⟨rfl, hdA_X8_net⟩ (by decide) rfl hl.1 rfl (Nat.le_of_ble_eq_true rfl) dL_law_482 ⟨by omega, by omega⟩ ⟨by omega, by omega⟩ (by omega) (by omega) (fun f H locs hX hI => ?_)
    refine lv_icmp_eq (tgt := 490) C.x C.b dL_law_485 (by decide) (fun _ => ?_) (fun q9 => absurd (congrArg nI (draws_edges hT qd)) q9)
    refine lv_goto (tgt := 1207) C.x C.b dL_law_490 (by decide) ?_
    refine W.widen (k := cells + 500) (n := slots + 4000) (by omega) (by omega) ?_
    exact K f H locs m ls hX hI hd (lv_sub hl [0, 1, 2, 3, 4, 5, 6, 7] rfl)
  ·
    refine k_cI (As := []) (rest := []) (c2 := cells + 32) (s2 := slots + 256) (v := (nI 0)) (m1 := m) C hX (iop_draws hst hI) (e_draws_n qd) hI.hd (gl_same inv_X8_draws) rfl ⟨rfl, hdA_X8_draws⟩ (by decide) rfl hl.1 rfl (Nat.le_of_ble_eq_true rfl) dL_law_469 ⟨by omega, by omega⟩ ⟨by omega, by omega⟩ (by omega) (by omega) (fun f H locs hX hI => ?_)
    refine lv_if_eq (tgt := 490) C.x C.b dL_law_472 (by decide) (fun _ => ?_) (fun q9 => absurd (by decide) q9)
    refine lv_goto (tgt := 1207) C.x C.b dL_law_490 (by decide) ?_
    refine W.widen (k := cells + 500) (n := slots + 4000) (by omega) (by omega) ?_
    exact K f H locs m ls hX hI hd (lv_sub hl [0, 1, 2, 3, 4, 5, 6, 7] rfl)
set_option maxHeartbeats 8000000 in
set_option maxRecDepth 100000 in
theorem law_w4 (hst : l.stackTraces = false) (C : kC G B0 p mi c cL_law 18 s args wsL_law RL) (hX : kX G B0 s f H locs) (hR : 400 ≤ R.frames ∧ 24000 ≤ R.locals) (hcl : cells + 2000 ≤ R.cells ∧ slots + 16000 ≤ R.slots) (hI : Inv G h f m) (hd : dInv m) (hx : x < 16777216) (hy : y < 16777216) (hz : z < 16777216) (hl : lv_has ls 18 [(0, .ref b), (1, .ref h), (2, .int (nI m.nd)), (3, .int (nI m.ng)), (4, .int (nI m.nm)), (5, .int (nI m.nc)), (6, .int (nI m.nw)), (7, .int (nI k)), (8, .int (nI x)), (9, .int (nI 4)), (10, .int (nI y)), (11, .int (nI z))])
    (K : ∀ (f1 : kH) (H1 : Heap) (locs1 : List Loc) (m1 : pSt) (ls1 : Array Slot), kX G B0 s f1 H1 locs1 → Inv G h f1 m1 → dInv m1 → lv_has ls1 18 (lwB b h m1 k) → W p l e R s mi args below meth c H1 locs1 (cells + 2000) (slots + 16000) Q (F0 mi 1207 ls1 [])) : W p l e R s mi args below meth c H locs cells slots Q (F0 mi 85 ls []) := by
  obtain ⟨b4, b16, bf, bd, bg, bm, bc2, bc6, bw⟩ := hI.bd
  refine lv_iload C.x C.b dL_law_85 (lv_at hl 9 rfl) ?_
  refine lv_iconst (v := (nI 2)) C.x C.b dL_law_87 (by decide) ?_
  refine lv_icmp_ge (tgt := 138) C.x C.b dL_law_88 (by decide) (fun _ => ?_) (fun q9 => absurd (by decide) q9)
  refine lv_iload C.x C.b dL_law_138 (lv_at hl 9 rfl) ?_
  refine lv_iconst (v := (nI 4)) C.x C.b dL_law_140 (by decide) ?_
  refine lv_icmp_ge (tgt := 304) C.x C.b dL_law_141 (by decide) (fun _ => ?_) (fun q9 => absurd (by decide) q9)
  refine lv_iload C.x C.b dL_law_304 (lv_at hl 9 rfl) ?_
  refine lv_bipush (v := (nI 6)) C.x C.b dL_law_306 (by decide) ?_
  refine lv_icmp_ge (tgt := 493) C.x C.b dL_law_308 (by decide) (fun q9 => absurd q9 (by decide)) (fun _ => ?_)
  refine lv_iload C.x C.b dL_law_311 (lv_at hl 9 rfl) ?_
  refine lv_iconst (v := (nI 4)) C.x C.b dL_law_313 (by decide) ?_
  refine lv_icmp_eq (tgt := 321) C.x C.b dL_law_314 (by decide) (fun _ => ?_) (fun q9 => absurd (by decide) q9)
  refine lv_aload_n C.x C.b dL_law_321 rfl (lv_at hl 1 rfl) ?_
  refine lv_iconst (v := (nI 5)) C.x C.b dL_law_322 (by decide) ?_
  refine lv_iload C.x C.b dL_law_323 (lv_at hl 10 rfl) ?_
  refine lv_bipush (v := (nI 40)) C.x C.b dL_law_325 (by decide) ?_
  refine lv_irem C.x C.b dL_law_327 (by decide) ?_
  refine k_topi (y := (nI (y % 40))) (pk_rem (by omega) (by omega) (by omega)) ?_
  refine lv_iload C.x C.b dL_law_328 (lv_at hl 11 rfl) ?_
  refine lv_bipush (v := (nI 40)) C.x C.b dL_law_330 (by decide) ?_
  refine lv_irem C.x C.b dL_law_332 (by decide) ?_
  refine k_topi (y := (nI (z % 40))) (pk_rem (by omega) (by omega) (by omega)) ?_
  refine lv_iconst (v := (nI 1)) C.x C.b dL_law_333 (by decide) ?_
  refine lv_iload C.x C.b dL_law_334 (lv_at hl 8 rfl) ?_
  refine lv_bipush (v := (nI 9)) C.x C.b dL_law_336 (by decide) ?_
  refine lv_irem C.x C.b dL_law_338 (by decide) ?_
  refine k_topi (y := (nI (x % 9))) (pk_rem (by omega) (by omega) (by omega)) ?_
  refine lv_iadd C.x C.b dL_law_339 ?_
  refine k_topi (y := (nI (1 + x % 9))) (nI_add _ _) ?_
  refine lv_iconst (v := (nI 0)) C.x C.b dL_law_340 (by decide) ?_
  by_cases q16 : 16 ≤ m.nd
  ·
    refine k_actI (As := [.ref h, .int (nI 5), .int (nI (y % 40)), .int (nI (z % 40)), .int (nI (1 + x % 9)), .int (nI 0)]) (rest := []) (c2 := cells + 8) (s2 := slots + 64) (v := (-7000003)) (m1 := m) C hX (act_5 hI.hd (nI (y % 40)) (nI (z % 40)) (nI (1 + x % 9)) (nI 0) (iop_disk hst hI (nI (y % 40)) (nI (z % 40)) (nI (1 + x % 9)))) (e_disk_s (dsk_m _ (Nat.mod_lt y (by decide)) _ (Nat.mod_lt z (by decide)) _ (Nat.mod_lt x (by decide))) q16) (rfl) (gl_same inv_L_act) rfl hl.1 rfl (Nat.le_of_ble_eq_true rfl) dL_law_341 ⟨by omega, by omega⟩ ⟨by omega, by omega⟩ (by omega) (by omega) (fun f H locs hX hI => ?_)
    refine lv_goto (tgt := 374) C.x C.b dL_law_344 (by decide) ?_
    refine lv_lstore (lv' := [(12, .long (-7000003)), (0, .ref b), (1, .ref h), (2, .int (nI m.nd)), (3, .int (nI m.ng)), (4, .int (nI m.nm)), (5, .int (nI m.nc)), (6, .int (nI m.nw)), (7, .int (nI k)), (8, .int (nI x)), (9, .int (nI 4)), (10, .int (nI y)), (11, .int (nI z))]) C.x C.b dL_law_374 hl (by decide) rfl (fun ls hl => ?_)
    refine lv_iload C.x C.b dL_law_376 (lv_at hl 10 rfl) ?_
    refine lv_iconst (v := (nI 4)) C.x C.b dL_law_378 (by decide) ?_
    refine lv_icmp_eq (tgt := 386) C.x C.b dL_law_379 (by decide) (fun _ => ?_) (fun q9 => absurd (by decide) q9)
    refine lv_lload C.x C.b dL_law_386 (lv_at hl 0 rfl) ?_
    refine lv_iload_n C.x C.b dL_law_388 rfl (lv_at hl 3 rfl) ?_
    refine lv_bipush (v := (nI 16)) C.x C.b dL_law_389 (by decide) ?_
    refine lv_icmp_ge (tgt := 398) C.x C.b dL_law_391 (by decide) (fun _ => ?_) (fun q9 => absurd (nI_le q16 (by omega)) q9)
    refine lv_ldc (v := (-7000003)) C.x C.b C.ow (C.ts _ lkC_3) dL_law_398 ?_
    refine lv_i2l (v := (-7000003).toInt64) C.x C.b dL_law_400 rfl ?_
    refine k_topl (y := (-7000003)) (by decide) ?_
    refine k_lcmp_eq (tgt := 417) C.x C.b dL_law_401 dL_law_402 (by decide) (fun _ => ?_) (fun q9 => absurd (by decide) q9)
    refine lv_iload_n C.x C.b dL_law_417 rfl (lv_at hl 3 rfl) ?_
    refine lv_iload C.x C.b dL_law_418 (lv_at hl 10 rfl) ?_
    refine lv_iconst (v := (nI 4)) C.x C.b dL_law_420 (by decide) ?_
    refine lv_icmp_eq (tgt := 428) C.x C.b dL_law_421 (by decide) (fun _ => ?_) (fun q9 => absurd (by decide) q9)
    refine lv_iload_n C.x C.b dL_law_428 rfl (lv_at hl 3 rfl) ?_
    refine lv_bipush (v := (nI 16)) C.x C.b dL_law_429 (by decide) ?_
    refine lv_icmp_ge (tgt := 438) C.x C.b dL_law_431 (by decide) (fun _ => ?_) (fun q9 => absurd (nI_le q16 (by omega)) q9)
    refine lv_iconst (v := (nI 0)) C.x C.b dL_law_438 (by decide) ?_
    refine lv_iadd C.x C.b dL_law_439 ?_
    refine k_topi (y := (nI m.nd)) (nI_add _ 0) ?_
    refine lv_istore_n (lv' := [(2, .int (nI m.nd)), (12, .long (-7000003)), (0, .ref b), (1, .ref h), (3, .int (nI m.ng)), (4, .int (nI m.nm)), (5, .int (nI m.nc)), (6, .int (nI m.nw)), (7, .int (nI k)), (8, .int (nI x)), (9, .int (nI 4)), (10, .int (nI y)), (11, .int (nI z))]) C.x C.b dL_law_440 rfl hl (by decide) rfl (fun ls hl => ?_)
    exact law_tD (x := x) (y := y) (z := z) (m := m) hst C hX hR ⟨by omega, by omega⟩ hI hd hx hy hz (lv_sub hl [2, 3, 0, 4, 5, 6, 7, 8] rfl) (fun f1 H1 locs1 m1 ls1 a1 a2 a3 a4 => W.widen (k := cells + 2000) (n := slots + 16000) (by omega) (by omega) (K f1 H1 locs1 m1 ls1 a1 a2 a3 a4))
  ·
    refine k_actI (As := [.ref h, .int (nI 5), .int (nI (y % 40)), .int (nI (z % 40)), .int (nI (1 + x % 9)), .int (nI 0)]) (rest := []) (c2 := cells + 8) (s2 := slots + 64) (v := (nI m.nd).toInt64) (m1 := (pMk m.cc m.fc (m.nd + 1) m.ng m.nm m.nc m.nw m.fa (upd m.dx m.nd (nI (y % 40))) (upd m.dy m.nd (nI (z % 40))) (upd m.dr m.nd (nI (1 + x % 9))) m.fo m.ro m.mv m.pr m.ea m.eb)) C hX (act_5 hI.hd (nI (y % 40)) (nI (z % 40)) (nI (1 + x % 9)) (nI 0) (iop_disk hst hI (nI (y % 40)) (nI (z % 40)) (nI (1 + x % 9)))) (ev_disk m.nd (dsk_m _ (Nat.mod_lt y (by decide)) _ (Nat.mod_lt z (by decide)) _ (Nat.mod_lt x (by decide))) q16 rfl rfl) (rfl) (gl_same inv_L_act) rfl hl.1 rfl (Nat.le_of_ble_eq_true rfl) dL_law_341 ⟨by omega, by omega⟩ ⟨by omega, by omega⟩ (by omega) (by omega) (fun f H locs hX hI => ?_)
    refine lv_goto (tgt := 374) C.x C.b dL_law_344 (by decide) ?_
    refine lv_lstore (lv' := [(12, .long ((nI m.nd).toInt64)), (0, .ref b), (1, .ref h), (2, .int (nI m.nd)), (3, .int (nI m.ng)), (4, .int (nI m.nm)), (5, .int (nI m.nc)), (6, .int (nI m.nw)), (7, .int (nI k)), (8, .int (nI x)), (9, .int (nI 4)), (10, .int (nI y)), (11, .int (nI z))]) C.x C.b dL_law_374 hl (by decide) rfl (fun ls hl => ?_)
    refine lv_iload C.x C.b dL_law_376 (lv_at hl 10 rfl) ?_
    refine lv_iconst (v := (nI 4)) C.x C.b dL_law_378 (by decide) ?_
    refine lv_icmp_eq (tgt := 386) C.x C.b dL_law_379 (by decide) (fun _ => ?_) (fun q9 => absurd (by decide) q9)
    refine lv_lload C.x C.b dL_law_386 (lv_at hl 0 rfl) ?_
    refine lv_iload_n C.x C.b dL_law_388 rfl (lv_at hl 3 rfl) ?_
    refine lv_bipush (v := (nI 16)) C.x C.b dL_law_389 (by decide) ?_
    refine lv_icmp_ge (tgt := 398) C.x C.b dL_law_391 (by decide) (fun q9 => absurd q9 (nI_ge (by omega) (by decide))) (fun _ => ?_)
    refine lv_iload_n C.x C.b dL_law_394 rfl (lv_at hl 3 rfl) ?_
    refine lv_goto (tgt := 400) C.x C.b dL_law_395 (by decide) ?_
    refine lv_i2l (v := (nI m.nd).toInt64) C.x C.b dL_law_400 rfl ?_
    refine k_lcmp_eq (tgt := 417) C.x C.b dL_law_401 dL_law_402 (by decide) (fun _ => ?_) (fun q9 => absurd (rfl) q9)
    refine lv_iload_n C.x C.b dL_law_417 rfl (lv_at hl 3 rfl) ?_
    refine lv_iload C.x C.b dL_law_418 (lv_at hl 10 rfl) ?_
    refine lv_iconst (v := (nI 4)) C.x C.b dL_law_420 (by decide) ?_
    refine lv_icmp_eq (tgt := 428) C.x C.b dL_law_421 (by decide) (fun _ => ?_) (fun q9 => absurd (by decide) q9)
    refine lv_iload_n C.x C.b dL_law_428 rfl (lv_at hl 3 rfl) ?_
    refine lv_bipush (v := (nI 16)) C.x C.b dL_law_429 (by decide) ?_
    refine lv_icmp_ge (tgt := 438) C.x C.b dL_law_431 (by decide) (fun q9 => absurd q9 (nI_ge (by omega) (by decide))) (fun _ => ?_)
    refine lv_iconst (v := (nI 1)) C.x C.b dL_law_434 (by decide) ?_
    refine lv_goto (tgt := 439) C.x C.b dL_law_435 (by decide) ?_
    refine lv_iadd C.x C.b dL_law_439 ?_
    refine k_topi (y := (nI (m.nd + 1))) (nI_add _ _) ?_
    refine lv_istore_n (lv' := [(2, .int (nI (m.nd + 1))), (12, .long ((nI m.nd).toInt64)), (0, .ref b), (1, .ref h), (3, .int (nI m.ng)), (4, .int (nI m.nm)), (5, .int (nI m.nc)), (6, .int (nI m.nw)), (7, .int (nI k)), (8, .int (nI x)), (9, .int (nI 4)), (10, .int (nI y)), (11, .int (nI z))]) C.x C.b dL_law_440 rfl hl (by decide) rfl (fun ls hl => ?_)
    exact law_tD (x := x) (y := y) (z := z) (m := (pMk m.cc m.fc (m.nd + 1) m.ng m.nm m.nc m.nw m.fa (upd m.dx m.nd (nI (y % 40))) (upd m.dy m.nd (nI (z % 40))) (upd m.dr m.nd (nI (1 + x % 9))) m.fo m.ro m.mv m.pr m.ea m.eb)) hst C hX hR ⟨by omega, by omega⟩ hI hd hx hy hz (lv_sub hl [2, 3, 0, 4, 5, 6, 7, 8] rfl) (fun f1 H1 locs1 m1 ls1 a1 a2 a3 a4 => W.widen (k := cells + 2000) (n := slots + 16000) (by omega) (by omega) (K f1 H1 locs1 m1 ls1 a1 a2 a3 a4))
set_option maxHeartbeats 8000000 in
set_option maxRecDepth 100000 in
theorem law_w5a (hst : l.stackTraces = false) (C : kC G B0 p mi c cL_law 18 s args wsL_law RL) (hX : kX G B0 s f H locs) (hR : 400 ≤ R.frames ∧ 24000 ≤ R.locals) (hcl : cells + 2000 ≤ R.cells ∧ slots + 16000 ≤ R.slots) (hI : Inv G h f m) (hd : dInv m) (hx : x < 16777216) (hy : y < 16777216) (hz : z < 16777216) (h0 : m.nd = 0) (hl : lv_has ls 18 [(0, .ref b), (1, .ref h), (2, .int (nI m.nd)), (3, .int (nI m.ng)), (4, .int (nI m.nm)), (5, .int (nI m.nc)), (6, .int (nI m.nw)), (7, .int (nI k)), (8, .int (nI x)), (9, .int (nI 5)), (10, .int (nI y)), (11, .int (nI z))])
    (K : ∀ (f1 : kH) (H1 : Heap) (locs1 : List Loc) (m1 : pSt) (ls1 : Array Slot), kX G B0 s f1 H1 locs1 → Inv G h f1 m1 → dInv m1 → lv_has ls1 18 (lwB b h m1 k) → W p l e R s mi args below meth c H1 locs1 (cells + 2000) (slots + 16000) Q (F0 mi 1207 ls1 [])) : W p l e R s mi args below meth c H locs cells slots Q (F0 mi 85 ls []) := by
  obtain ⟨b4, b16, bf, bd, bg, bm, bc2, bc6, bw⟩ := hI.bd
  refine lv_iload C.x C.b dL_law_85 (lv_at hl 9 rfl) ?_
  refine lv_iconst (v := (nI 2)) C.x C.b dL_law_87 (by decide) ?_
  refine lv_icmp_ge (tgt := 138) C.x C.b dL_law_88 (by decide) (fun _ => ?_) (fun q9 => absurd (by decide) q9)
  refine lv_iload C.x C.b dL_law_138 (lv_at hl 9 rfl) ?_
  refine lv_iconst (v := (nI 4)) C.x C.b dL_law_140 (by decide) ?_
  refine lv_icmp_ge (tgt := 304) C.x C.b dL_law_141 (by decide) (fun _ => ?_) (fun q9 => absurd (by decide) q9)
  refine lv_iload C.x C.b dL_law_304 (lv_at hl 9 rfl) ?_
  refine lv_bipush (v := (nI 6)) C.x C.b dL_law_306 (by decide) ?_
  refine lv_icmp_ge (tgt := 493) C.x C.b dL_law_308 (by decide) (fun q9 => absurd q9 (by decide)) (fun _ => ?_)
  refine lv_iload C.x C.b dL_law_311 (lv_at hl 9 rfl) ?_
  refine lv_iconst (v := (nI 4)) C.x C.b dL_law_313 (by decide) ?_
  refine lv_icmp_eq (tgt := 321) C.x C.b dL_law_314 (by decide) (fun q9 => absurd q9 (by decide)) (fun _ => ?_)
  refine lv_iload_n C.x C.b dL_law_317 rfl (lv_at hl 2 rfl) ?_
  refine lv_if_ne (tgt := 347) C.x C.b dL_law_318 (by decide) (fun q9 => absurd (by rw [h0]; rfl) q9) (fun _ => ?_)
  refine lv_aload_n C.x C.b dL_law_321 rfl (lv_at hl 1 rfl) ?_
  refine lv_iconst (v := (nI 5)) C.x C.b dL_law_322 (by decide) ?_
  refine lv_iload C.x C.b dL_law_323 (lv_at hl 10 rfl) ?_
  refine lv_bipush (v := (nI 40)) C.x C.b dL_law_325 (by decide) ?_
  refine lv_irem C.x C.b dL_law_327 (by decide) ?_
  refine k_topi (y := (nI (y % 40))) (pk_rem (by omega) (by omega) (by omega)) ?_
  refine lv_iload C.x C.b dL_law_328 (lv_at hl 11 rfl) ?_
  refine lv_bipush (v := (nI 40)) C.x C.b dL_law_330 (by decide) ?_
  refine lv_irem C.x C.b dL_law_332 (by decide) ?_
  refine k_topi (y := (nI (z % 40))) (pk_rem (by omega) (by omega) (by omega)) ?_
  refine lv_iconst (v := (nI 1)) C.x C.b dL_law_333 (by decide) ?_
  refine lv_iload C.x C.b dL_law_334 (lv_at hl 8 rfl) ?_
  refine lv_bipush (v := (nI 9)) C.x C.b dL_law_336 (by decide) ?_
  refine lv_irem C.x C.b dL_law_338 (by decide) ?_
  refine k_topi (y := (nI (x % 9))) (pk_rem (by omega) (by omega) (by omega)) ?_
  refine lv_iadd C.x C.b dL_law_339 ?_
  refine k_topi (y := (nI (1 + x % 9))) (nI_add _ _) ?_
  refine lv_iconst (v := (nI 0)) C.x C.b dL_law_340 (by decide) ?_
  by_cases q16 : 16 ≤ m.nd
  ·
    refine k_actI (As := [.ref h, .int (nI 5), .int (nI (y % 40)), .int (nI (z % 40)), .int (nI (1 + x % 9)), .int (nI 0)]) (rest := []) (c2 := cells + 8) (s2 := slots + 64) (v := (-7000003)) (m1 := m) C hX (act_5 hI.hd (nI (y % 40)) (nI (z % 40)) (nI (1 + x % 9)) (nI 0) (iop_disk hst hI (nI (y % 40)) (nI (z % 40)) (nI (1 + x % 9)))) (e_disk_s (dsk_m _ (Nat.mod_lt y (by decide)) _ (Nat.mod_lt z (by decide)) _ (Nat.mod_lt x (by decide))) q16) (rfl) (gl_same inv_L_act) rfl hl.1 rfl (Nat.le_of_ble_eq_true rfl) dL_law_341 ⟨by omega, by omega⟩ ⟨by omega, by omega⟩ (by omega) (by omega) (fun f H locs hX hI => ?_)
    refine lv_goto (tgt := 374) C.x C.b dL_law_344 (by decide) ?_
    refine lv_lstore (lv' := [(12, .long (-7000003)), (0, .ref b), (1, .ref h), (2, .int (nI m.nd)), (3, .int (nI m.ng)), (4, .int (nI m.nm)), (5, .int (nI m.nc)), (6, .int (nI m.nw)), (7, .int (nI k)), (8, .int (nI x)), (9, .int (nI 5)), (10, .int (nI y)), (11, .int (nI z))]) C.x C.b dL_law_374 hl (by decide) rfl (fun ls hl => ?_)
    refine lv_iload C.x C.b dL_law_376 (lv_at hl 10 rfl) ?_
    refine lv_iconst (v := (nI 4)) C.x C.b dL_law_378 (by decide) ?_
    refine lv_icmp_eq (tgt := 386) C.x C.b dL_law_379 (by decide) (fun q9 => absurd q9 (by decide)) (fun _ => ?_)
    refine lv_iload_n C.x C.b dL_law_382 rfl (lv_at hl 3 rfl) ?_
    refine lv_if_ne (tgt := 408) C.x C.b dL_law_383 (by decide) (fun q9 => absurd (by rw [h0]; rfl) q9) (fun _ => ?_)
    refine lv_lload C.x C.b dL_law_386 (lv_at hl 0 rfl) ?_
    refine lv_iload_n C.x C.b dL_law_388 rfl (lv_at hl 3 rfl) ?_
    refine lv_bipush (v := (nI 16)) C.x C.b dL_law_389 (by decide) ?_
    refine lv_icmp_ge (tgt := 398) C.x C.b dL_law_391 (by decide) (fun _ => ?_) (fun q9 => absurd (nI_le q16 (by omega)) q9)
    refine lv_ldc (v := (-7000003)) C.x C.b C.ow (C.ts _ lkC_3) dL_law_398 ?_
    refine lv_i2l (v := (-7000003).toInt64) C.x C.b dL_law_400 rfl ?_
    refine k_topl (y := (-7000003)) (by decide) ?_
    refine k_lcmp_eq (tgt := 417) C.x C.b dL_law_401 dL_law_402 (by decide) (fun _ => ?_) (fun q9 => absurd (by decide) q9)
    refine lv_iload_n C.x C.b dL_law_417 rfl (lv_at hl 3 rfl) ?_
    refine lv_iload C.x C.b dL_law_418 (lv_at hl 10 rfl) ?_
    refine lv_iconst (v := (nI 4)) C.x C.b dL_law_420 (by decide) ?_
    refine lv_icmp_eq (tgt := 428) C.x C.b dL_law_421 (by decide) (fun q9 => absurd q9 (by decide)) (fun _ => ?_)
    refine lv_iload_n C.x C.b dL_law_424 rfl (lv_at hl 3 rfl) ?_
    refine lv_if_ne (tgt := 438) C.x C.b dL_law_425 (by decide) (fun q9 => absurd (by rw [h0]; rfl) q9) (fun _ => ?_)
    refine lv_iload_n C.x C.b dL_law_428 rfl (lv_at hl 3 rfl) ?_
    refine lv_bipush (v := (nI 16)) C.x C.b dL_law_429 (by decide) ?_
    refine lv_icmp_ge (tgt := 438) C.x C.b dL_law_431 (by decide) (fun _ => ?_) (fun q9 => absurd (nI_le q16 (by omega)) q9)
    refine lv_iconst (v := (nI 0)) C.x C.b dL_law_438 (by decide) ?_
    refine lv_iadd C.x C.b dL_law_439 ?_
    refine k_topi (y := (nI m.nd)) (nI_add _ 0) ?_
    refine lv_istore_n (lv' := [(2, .int (nI m.nd)), (12, .long (-7000003)), (0, .ref b), (1, .ref h), (3, .int (nI m.ng)), (4, .int (nI m.nm)), (5, .int (nI m.nc)), (6, .int (nI m.nw)), (7, .int (nI k)), (8, .int (nI x)), (9, .int (nI 5)), (10, .int (nI y)), (11, .int (nI z))]) C.x C.b dL_law_440 rfl hl (by decide) rfl (fun ls hl => ?_)
    exact law_tD (x := x) (y := y) (z := z) (m := m) hst C hX hR ⟨by omega, by omega⟩ hI hd hx hy hz (lv_sub hl [2, 3, 0, 4, 5, 6, 7, 8] rfl) (fun f1 H1 locs1 m1 ls1 a1 a2 a3 a4 => W.widen (k := cells + 2000) (n := slots + 16000) (by omega) (by omega) (K f1 H1 locs1 m1 ls1 a1 a2 a3 a4))
  ·
    refine k_actI (As := [.ref h, .int (nI 5), .int (nI (y % 40)), .int (nI (z % 40)), .int (nI (1 + x % 9)), .int (nI 0)]) (rest := []) (c2 := cells + 8) (s2 := slots + 64) (v := (nI m.nd).toInt64) (m1 := (pMk m.cc m.fc (m.nd + 1) m.ng m.nm m.nc m.nw m.fa (upd m.dx m.nd (nI (y % 40))) (upd m.dy m.nd (nI (z % 40))) (upd m.dr m.nd (nI (1 + x % 9))) m.fo m.ro m.mv m.pr m.ea m.eb)) C hX (act_5 hI.hd (nI (y % 40)) (nI (z % 40)) (nI (1 + x % 9)) (nI 0) (iop_disk hst hI (nI (y % 40)) (nI (z % 40)) (nI (1 + x % 9)))) (ev_disk m.nd (dsk_m _ (Nat.mod_lt y (by decide)) _ (Nat.mod_lt z (by decide)) _ (Nat.mod_lt x (by decide))) q16 rfl rfl) (rfl) (gl_same inv_L_act) rfl hl.1 rfl (Nat.le_of_ble_eq_true rfl) dL_law_341 ⟨by omega, by omega⟩ ⟨by omega, by omega⟩ (by omega) (by omega) (fun f H locs hX hI => ?_)
    refine lv_goto (tgt := 374) C.x C.b dL_law_344 (by decide) ?_
    refine lv_lstore (lv' := [(12, .long ((nI m.nd).toInt64)), (0, .ref b), (1, .ref h), (2, .int (nI m.nd)), (3, .int (nI m.ng)), (4, .int (nI m.nm)), (5, .int (nI m.nc)), (6, .int (nI m.nw)), (7, .int (nI k)), (8, .int (nI x)), (9, .int (nI 5)), (10, .int (nI y)), (11, .int (nI z))]) C.x C.b dL_law_374 hl (by decide) rfl (fun ls hl => ?_)
    refine lv_iload C.x C.b dL_law_376 (lv_at hl 10 rfl) ?_
    refine lv_iconst (v := (nI 4)) C.x C.b dL_law_378 (by decide) ?_
    refine lv_icmp_eq (tgt := 386) C.x C.b dL_law_379 (by decide) (fun q9 => absurd q9 (by decide)) (fun _ => ?_)
    refine lv_iload_n C.x C.b dL_law_382 rfl (lv_at hl 3 rfl) ?_
    refine lv_if_ne (tgt := 408) C.x C.b dL_law_383 (by decide) (fun q9 => absurd (by rw [h0]; rfl) q9) (fun _ => ?_)
    refine lv_lload C.x C.b dL_law_386 (lv_at hl 0 rfl) ?_
    refine lv_iload_n C.x C.b dL_law_388 rfl (lv_at hl 3 rfl) ?_
    refine lv_bipush (v := (nI 16)) C.x C.b dL_law_389 (by decide) ?_
    refine lv_icmp_ge (tgt := 398) C.x C.b dL_law_391 (by decide) (fun q9 => absurd q9 (nI_ge (by omega) (by decide))) (fun _ => ?_)
    refine lv_iload_n C.x C.b dL_law_394 rfl (lv_at hl 3 rfl) ?_
    refine lv_goto (tgt := 400) C.x C.b dL_law_395 (by decide) ?_
    refine lv_i2l (v := (nI m.nd).toInt64) C.x C.b dL_law_400 rfl ?_
    refine k_lcmp_eq (tgt := 417) C.x C.b dL_law_401 dL_law_402 (by decide) (fun _ => ?_) (fun q9 => absurd (rfl) q9)
    refine lv_iload_n C.x C.b dL_law_417 rfl (lv_at hl 3 rfl) ?_
    refine lv_iload C.x C.b dL_law_418 (lv_at hl 10 rfl) ?_
    refine lv_iconst (v := (nI 4)) C.x C.b dL_law_420 (by decide) ?_
    refine lv_icmp_eq (tgt := 428) C.x C.b dL_law_421 (by decide) (fun q9 => absurd q9 (by decide)) (fun _ => ?_)
    refine lv_iload_n C.x C.b dL_law_424 rfl (lv_at hl 3 rfl) ?_
    refine lv_if_ne (tgt := 438) C.x C.b dL_law_425 (by decide) (fun q9 => absurd (by rw [h0]; rfl) q9) (fun _ => ?_)
    refine lv_iload_n C.x C.b dL_law_428 rfl (lv_at hl 3 rfl) ?_
    refine lv_bipush (v := (nI 16)) C.x C.b dL_law_429 (by decide) ?_
    refine lv_icmp_ge (tgt := 438) C.x C.b dL_law_431 (by decide) (fun q9 => absurd q9 (nI_ge (by omega) (by decide))) (fun _ => ?_)
    refine lv_iconst (v := (nI 1)) C.x C.b dL_law_434 (by decide) ?_
    refine lv_goto (tgt := 439) C.x C.b dL_law_435 (by decide) ?_
    refine lv_iadd C.x C.b dL_law_439 ?_
    refine k_topi (y := (nI (m.nd + 1))) (nI_add _ _) ?_
    refine lv_istore_n (lv' := [(2, .int (nI (m.nd + 1))), (12, .long ((nI m.nd).toInt64)), (0, .ref b), (1, .ref h), (3, .int (nI m.ng)), (4, .int (nI m.nm)), (5, .int (nI m.nc)), (6, .int (nI m.nw)), (7, .int (nI k)), (8, .int (nI x)), (9, .int (nI 5)), (10, .int (nI y)), (11, .int (nI z))]) C.x C.b dL_law_440 rfl hl (by decide) rfl (fun ls hl => ?_)
    exact law_tD (x := x) (y := y) (z := z) (m := (pMk m.cc m.fc (m.nd + 1) m.ng m.nm m.nc m.nw m.fa (upd m.dx m.nd (nI (y % 40))) (upd m.dy m.nd (nI (z % 40))) (upd m.dr m.nd (nI (1 + x % 9))) m.fo m.ro m.mv m.pr m.ea m.eb)) hst C hX hR ⟨by omega, by omega⟩ hI hd hx hy hz (lv_sub hl [2, 3, 0, 4, 5, 6, 7, 8] rfl) (fun f1 H1 locs1 m1 ls1 a1 a2 a3 a4 => W.widen (k := cells + 2000) (n := slots + 16000) (by omega) (by omega) (K f1 H1 locs1 m1 ls1 a1 a2 a3 a4))
set_option maxHeartbeats 8000000 in
set_option maxRecDepth 100000 in
theorem law_w5b (hst : l.stackTraces = false) (C : kC G B0 p mi c cL_law 18 s args wsL_law RL) (hX : kX G B0 s f H locs) (hR : 400 ≤ R.frames ∧ 24000 ≤ R.locals) (hcl : cells + 2000 ≤ R.cells ∧ slots + 16000 ≤ R.slots) (hI : Inv G h f m) (hd : dInv m) (hx : x < 16777216) (hy : y < 16777216) (hz : z < 16777216) (h0 : 0 < m.nd) (hl : lv_has ls 18 [(0, .ref b), (1, .ref h), (2, .int (nI m.nd)), (3, .int (nI m.ng)), (4, .int (nI m.nm)), (5, .int (nI m.nc)), (6, .int (nI m.nw)), (7, .int (nI k)), (8, .int (nI x)), (9, .int (nI 5)), (10, .int (nI y)), (11, .int (nI z))])
    (K : ∀ (f1 : kH) (H1 : Heap) (locs1 : List Loc) (m1 : pSt) (ls1 : Array Slot), kX G B0 s f1 H1 locs1 → Inv G h f1 m1 → dInv m1 → lv_has ls1 18 (lwB b h m1 k) → W p l e R s mi args below meth c H1 locs1 (cells + 2000) (slots + 16000) Q (F0 mi 1207 ls1 [])) : W p l e R s mi args below meth c H locs cells slots Q (F0 mi 85 ls []) := by
  obtain ⟨b4, b16, bf, bd, bg, bm, bc2, bc6, bw⟩ := hI.bd
  obtain ⟨i, hi, ei⟩ : ∃ i, i < m.nd ∧ y % m.nd = i := ⟨_, Nat.mod_lt _ (h0), rfl⟩
  have hr1 := hI.dr1 hi
  refine lv_iload C.x C.b dL_law_85 (lv_at hl 9 rfl) ?_
  refine lv_iconst (v := (nI 2)) C.x C.b dL_law_87 (by decide) ?_
  refine lv_icmp_ge (tgt := 138) C.x C.b dL_law_88 (by decide) (fun _ => ?_) (fun q9 => absurd (by decide) q9)
  refine lv_iload C.x C.b dL_law_138 (lv_at hl 9 rfl) ?_
  refine lv_iconst (v := (nI 4)) C.x C.b dL_law_140 (by decide) ?_
  refine lv_icmp_ge (tgt := 304) C.x C.b dL_law_141 (by decide) (fun _ => ?_) (fun q9 => absurd (by decide) q9)
  refine lv_iload C.x C.b dL_law_304 (lv_at hl 9 rfl) ?_
  refine lv_bipush (v := (nI 6)) C.x C.b dL_law_306 (by decide) ?_
  refine lv_icmp_ge (tgt := 493) C.x C.b dL_law_308 (by decide) (fun q9 => absurd q9 (by decide)) (fun _ => ?_)
  refine lv_iload C.x C.b dL_law_311 (lv_at hl 9 rfl) ?_
  refine lv_iconst (v := (nI 4)) C.x C.b dL_law_313 (by decide) ?_
  refine lv_icmp_eq (tgt := 321) C.x C.b dL_law_314 (by decide) (fun q9 => absurd q9 (by decide)) (fun _ => ?_)
  refine lv_iload_n C.x C.b dL_law_317 rfl (lv_at hl 2 rfl) ?_
  refine lv_if_ne (tgt := 347) C.x C.b dL_law_318 (by decide) (fun _ => ?_) (fun q9 => absurd q9 (nI_ne0 h0 (by omega)))
  refine lv_aload_n C.x C.b dL_law_347 rfl (lv_at hl 1 rfl) ?_
  refine lv_bipush (v := (nI 6)) C.x C.b dL_law_348 (by decide) ?_
  refine lv_iload C.x C.b dL_law_350 (lv_at hl 10 rfl) ?_
  refine lv_iload_n C.x C.b dL_law_352 rfl (lv_at hl 2 rfl) ?_
  refine lv_irem C.x C.b dL_law_353 (nI_ne0 h0 (by omega)) ?_
  refine k_topi (y := (nI i)) ((pk_rem (by omega) (by omega) (by omega)).trans (congrArg nI ei)) ?_
  refine lv_iload C.x C.b dL_law_354 (lv_at hl 8 rfl) ?_
  refine lv_bipush (v := (nI 40)) C.x C.b dL_law_356 (by decide) ?_
  refine lv_irem C.x C.b dL_law_358 (by decide) ?_
  refine k_topi (y := (nI (x % 40))) (pk_rem (by omega) (by omega) (by omega)) ?_
  refine lv_iload C.x C.b dL_law_359 (lv_at hl 11 rfl) ?_
  refine lv_bipush (v := (nI 40)) C.x C.b dL_law_361 (by decide) ?_
  refine lv_irem C.x C.b dL_law_363 (by decide) ?_
  refine k_topi (y := (nI (z % 40))) (pk_rem (by omega) (by omega) (by omega)) ?_
  refine lv_iconst (v := (nI 1)) C.x C.b dL_law_364 (by decide) ?_
  refine lv_iload C.x C.b dL_law_365 (lv_at hl 10 rfl) ?_
  refine lv_bipush (v := (nI 9)) C.x C.b dL_law_367 (by decide) ?_
  refine lv_irem C.x C.b dL_law_369 (by decide) ?_
  refine k_topi (y := (nI (y % 9))) (pk_rem (by omega) (by omega) (by omega)) ?_
  refine lv_iadd C.x C.b dL_law_370 ?_
  refine k_topi (y := (nI (1 + y % 9))) (nI_add _ _) ?_
  refine k_actI (As := [.ref h, .int (nI 6), .int (nI i), .int (nI (x % 40)), .int (nI (z % 40)), .int (nI (1 + y % 9))]) (rest := []) (c2 := cells + 8) (s2 := slots + 64) (v := (m.dr i).toInt64) (m1 := (pMk m.cc m.fc m.nd m.ng m.nm m.nc m.nw m.fa (upd m.dx i (nI (x % 40))) (upd m.dy i (nI (z % 40))) (upd m.dr i (nI (1 + y % 9))) m.fo m.ro m.mv m.pr m.ea m.eb)) C hX (act_6 hI.hd (nI i) (nI (x % 40)) (nI (z % 40)) (nI (1 + y % 9)) (iop_move hst hI (nI i) (nI (x % 40)) (nI (z % 40)) (nI (1 + y % 9)))) (ev_move i (mIn_in hi (by omega)) (by omega) (dsk_m _ (Nat.mod_lt x (by decide)) _ (Nat.mod_lt z (by decide)) _ (Nat.mod_lt y (by decide))) rfl rfl) (rfl) (gl_same inv_L_act) rfl hl.1 rfl (Nat.le_of_ble_eq_true rfl) dL_law_371 ⟨by omega, by omega⟩ ⟨by omega, by omega⟩ (by omega) (by omega) (fun f H locs hX hI => ?_)
  refine lv_lstore (lv' := [(12, .long ((m.dr i).toInt64)), (0, .ref b), (1, .ref h), (2, .int (nI m.nd)), (3, .int (nI m.ng)), (4, .int (nI m.nm)), (5, .int (nI m.nc)), (6, .int (nI m.nw)), (7, .int (nI k)), (8, .int (nI x)), (9, .int (nI 5)), (10, .int (nI y)), (11, .int (nI z))]) C.x C.b dL_law_374 hl (by decide) rfl (fun ls hl => ?_)
  refine lv_iload C.x C.b dL_law_376 (lv_at hl 10 rfl) ?_
  refine lv_iconst (v := (nI 4)) C.x C.b dL_law_378 (by decide) ?_
  refine lv_icmp_eq (tgt := 386) C.x C.b dL_law_379 (by decide) (fun q9 => absurd q9 (by decide)) (fun _ => ?_)
  refine lv_iload_n C.x C.b dL_law_382 rfl (lv_at hl 3 rfl) ?_
  refine lv_if_ne (tgt := 408) C.x C.b dL_law_383 (by decide) (fun _ => ?_) (fun q9 => absurd q9 (nI_ne0 h0 (by omega)))
  refine lv_lload C.x C.b dL_law_408 (lv_at hl 0 rfl) ?_
  refine lv_lconst (v := 1) C.x C.b dL_law_410 (by decide) ?_
  refine k_lcmp_ge (tgt := 417) C.x C.b dL_law_411 dL_law_412 (by decide) (fun _ => ?_) (fun q9 => absurd q9 (hr1))
  refine lv_iload_n C.x C.b dL_law_417 rfl (lv_at hl 3 rfl) ?_
  refine lv_iload C.x C.b dL_law_418 (lv_at hl 10 rfl) ?_
  refine lv_iconst (v := (nI 4)) C.x C.b dL_law_420 (by decide) ?_
  refine lv_icmp_eq (tgt := 428) C.x C.b dL_law_421 (by decide) (fun q9 => absurd q9 (by decide)) (fun _ => ?_)
  refine lv_iload_n C.x C.b dL_law_424 rfl (lv_at hl 3 rfl) ?_
  refine lv_if_ne (tgt := 438) C.x C.b dL_law_425 (by decide) (fun _ => ?_) (fun q9 => absurd q9 (nI_ne0 h0 (by omega)))
  refine lv_iconst (v := (nI 0)) C.x C.b dL_law_438 (by decide) ?_
  refine lv_iadd C.x C.b dL_law_439 ?_
  refine k_topi (y := (nI m.nd)) (nI_add _ 0) ?_
  refine lv_istore_n (lv' := [(2, .int (nI m.nd)), (12, .long ((m.dr i).toInt64)), (0, .ref b), (1, .ref h), (3, .int (nI m.ng)), (4, .int (nI m.nm)), (5, .int (nI m.nc)), (6, .int (nI m.nw)), (7, .int (nI k)), (8, .int (nI x)), (9, .int (nI 5)), (10, .int (nI y)), (11, .int (nI z))]) C.x C.b dL_law_440 rfl hl (by decide) rfl (fun ls hl => ?_)
  exact law_tD (x := x) (y := y) (z := z) (m := (pMk m.cc m.fc m.nd m.ng m.nm m.nc m.nw m.fa (upd m.dx i (nI (x % 40))) (upd m.dy i (nI (z % 40))) (upd m.dr i (nI (1 + y % 9))) m.fo m.ro m.mv m.pr m.ea m.eb)) hst C hX hR ⟨by omega, by omega⟩ hI hd hx hy hz (lv_sub hl [2, 3, 0, 4, 5, 6, 7, 8] rfl) (fun f1 H1 locs1 m1 ls1 a1 a2 a3 a4 => W.widen (k := cells + 2000) (n := slots + 16000) (by omega) (by omega) (K f1 H1 locs1 m1 ls1 a1 a2 a3 a4))
end LW1
