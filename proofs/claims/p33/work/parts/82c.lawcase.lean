/-! the law's drawn calls: 82c.lawcase -/
section LW2
variable {p : Program} {l : Launch} {e : Env} {R : Room} {s : State} {mi : MethodId} {args : Array Value} {below : List Frame} {meth : Method} {c : Code} {H : Heap} {locs : List Loc} {cells slots : Nat} {Q : State → Prop}
variable {ls : Array Slot} {G : kG} {B0 h b k x y z : Nat} {f : kH} {m : pSt}
set_option maxHeartbeats 8000000 in
set_option maxRecDepth 100000 in
theorem law_w6 (hst : l.stackTraces = false) (C : kC G B0 p mi c cL_law 18 s args wsL_law RL) (hX : kX G B0 s f H locs) (hR : 400 ≤ R.frames ∧ 24000 ≤ R.locals) (hcl : cells + 2000 ≤ R.cells ∧ slots + 16000 ≤ R.slots) (hI : Inv G h f m) (hd : dInv m) (hx : x < 16777216) (hy : y < 16777216) (hz : z < 16777216) (hl : lv_has ls 18 [(0, .ref b), (1, .ref h), (2, .int (nI m.nd)), (3, .int (nI m.ng)), (4, .int (nI m.nm)), (5, .int (nI m.nc)), (6, .int (nI m.nw)), (7, .int (nI k)), (8, .int (nI x)), (9, .int (nI 6)), (10, .int (nI y)), (11, .int (nI z))])
    (K : ∀ (f1 : kH) (H1 : Heap) (locs1 : List Loc) (m1 : pSt) (ls1 : Array Slot), kX G B0 s f1 H1 locs1 → Inv G h f1 m1 → dInv m1 → lv_has ls1 18 (lwB b h m1 k) → W p l e R s mi args below meth c H1 locs1 (cells + 2000) (slots + 16000) Q (F0 mi 1207 ls1 [])) : W p l e R s mi args below meth c H locs cells slots Q (F0 mi 85 ls []) := by
  obtain ⟨b4, b16, bf, bd, bg, bm, bc2, bc6, bw⟩ := hI.bd
  obtain ⟨a, ha, ea⟩ : ∃ a, a < 6 ∧ y % 6 = a := ⟨_, Nat.mod_lt _ (by decide), rfl⟩
  obtain ⟨d, hd2, ed⟩ : ∃ d, d < 6 ∧ z % 6 = d := ⟨_, Nat.mod_lt _ (by decide), rfl⟩
  refine lv_iload C.x C.b dL_law_85 (lv_at hl 9 rfl) ?_
  refine lv_iconst (v := (nI 2)) C.x C.b dL_law_87 (by decide) ?_
  refine lv_icmp_ge (tgt := 138) C.x C.b dL_law_88 (by decide) (fun _ => ?_) (fun q9 => absurd (by decide) q9)
  refine lv_iload C.x C.b dL_law_138 (lv_at hl 9 rfl) ?_
  refine lv_iconst (v := (nI 4)) C.x C.b dL_law_140 (by decide) ?_
  refine lv_icmp_ge (tgt := 304) C.x C.b dL_law_141 (by decide) (fun _ => ?_) (fun q9 => absurd (by decide) q9)
  refine lv_iload C.x C.b dL_law_304 (lv_at hl 9 rfl) ?_
  refine lv_bipush (v := (nI 6)) C.x C.b dL_law_306 (by decide) ?_
  refine lv_icmp_ge (tgt := 493) C.x C.b dL_law_308 (by decide) (fun _ => ?_) (fun q9 => absurd (by decide) q9)
  refine lv_iload C.x C.b dL_law_493 (lv_at hl 9 rfl) ?_
  refine lv_bipush (v := (nI 6)) C.x C.b dL_law_495 (by decide) ?_
  refine lv_icmp_ne (tgt := 684) C.x C.b dL_law_497 (by decide) (fun q9 => absurd (by decide) q9) (fun _ => ?_)
  refine lv_iconst (v := (nI 1)) C.x C.b dL_law_500 (by decide) ?_
  refine lv_iload C.x C.b dL_law_501 (lv_at hl 10 rfl) ?_
  refine lv_bipush (v := (nI 6)) C.x C.b dL_law_503 (by decide) ?_
  refine lv_irem C.x C.b dL_law_505 (by decide) ?_
  refine k_topi (y := (nI a)) ((pk_rem (by omega) (by omega) (by omega)).trans (congrArg nI ea)) ?_
  refine lv_iadd C.x C.b dL_law_506 ?_
  refine k_topi (y := (nI (1 + a))) (nI_add _ _) ?_
  refine lv_istore (lv' := [(12, .int (nI (1 + a))), (0, .ref b), (1, .ref h), (2, .int (nI m.nd)), (3, .int (nI m.ng)), (4, .int (nI m.nm)), (5, .int (nI m.nc)), (6, .int (nI m.nw)), (7, .int (nI k)), (8, .int (nI x)), (9, .int (nI 6)), (10, .int (nI y)), (11, .int (nI z))]) C.x C.b dL_law_507 hl (by decide) rfl (fun ls hl => ?_)
  refine lv_iconst (v := (nI 1)) C.x C.b dL_law_509 (by decide) ?_
  refine lv_iload C.x C.b dL_law_510 (lv_at hl 12 rfl) ?_
  refine lv_bipush (v := (nI 6)) C.x C.b dL_law_512 (by decide) ?_
  refine lv_irem C.x C.b dL_law_514 (by decide) ?_
  refine k_topi (y := (nI d)) ((pk_rem (by omega) (by omega) (by omega)).trans (congrArg nI ed)) ?_
  refine lv_iadd C.x C.b dL_law_515 ?_
  refine k_topi (y := (nI (1 + d))) (nI_add _ _) ?_
  refine lv_istore (lv' := [(13, .int (nI (1 + d))), (12, .int (nI (1 + a))), (0, .ref b), (1, .ref h), (2, .int (nI m.nd)), (3, .int (nI m.ng)), (4, .int (nI m.nm)), (5, .int (nI m.nc)), (6, .int (nI m.nw)), (7, .int (nI k)), (8, .int (nI x)), (9, .int (nI 6)), (10, .int (nI y)), (11, .int (nI z))]) C.x C.b dL_law_516 hl (by decide) rfl (fun ls hl => ?_)
  refine lv_iload C.x C.b dL_law_518 (lv_at hl 1 rfl) ?_
  refine lv_iload C.x C.b dL_law_520 (lv_at hl 1 rfl) ?_
  refine lv_imul C.x C.b dL_law_522 ?_
  refine lv_iload C.x C.b dL_law_523 (lv_at hl 0 rfl) ?_
  refine lv_irem C.x C.b dL_law_525 (nI_ne0 (by omega) (by omega)) ?_
  refine k_topi (y := (nI ((1 + a) * (1 + a) % (1 + d)))) (gk_rem a ha d hd2) ?_
  by_cases his : (1 + a) * (1 + a) % (1 + d) = 0
  ·
    refine lv_if_ne (tgt := 533) C.x C.b dL_law_526 (by decide) (fun q9 => absurd (by rw [his]; rfl) q9) (fun _ => ?_)
    refine lv_iconst (v := (nI 1)) C.x C.b dL_law_529 (by decide) ?_
    refine lv_goto (tgt := 534) C.x C.b dL_law_530 (by decide) ?_
    refine lv_istore (lv' := [(14, .int (nI 1)), (13, .int (nI (1 + d))), (12, .int (nI (1 + a))), (0, .ref b), (1, .ref h), (2, .int (nI m.nd)), (3, .int (nI m.ng)), (4, .int (nI m.nm)), (5, .int (nI m.nc)), (6, .int (nI m.nw)), (7, .int (nI k)), (8, .int (nI x)), (9, .int (nI 6)), (10, .int (nI y)), (11, .int (nI z))]) C.x C.b dL_law_534 hl (by decide) rfl (fun ls hl => ?_)
    refine lv_iload C.x C.b dL_law_536 (lv_at hl 2 rfl) ?_
    refine lv_iload C.x C.b dL_law_538 (lv_at hl 2 rfl) ?_
    refine lv_imul C.x C.b dL_law_540 ?_
    refine lv_iload C.x C.b dL_law_541 (lv_at hl 1 rfl) ?_
    refine lv_idiv C.x C.b dL_law_543 (nI_ne0 (by omega) (by omega)) ?_
    refine k_topi (y := (nI (gcC a d))) (gk_div a ha d hd2) ?_
    refine lv_istore (lv' := [(15, .int (nI (gcC a d))), (14, .int (nI 1)), (13, .int (nI (1 + d))), (12, .int (nI (1 + a))), (0, .ref b), (1, .ref h), (2, .int (nI m.nd)), (3, .int (nI m.ng)), (4, .int (nI m.nm)), (5, .int (nI m.nc)), (6, .int (nI m.nw)), (7, .int (nI k)), (8, .int (nI x)), (9, .int (nI 6)), (10, .int (nI y)), (11, .int (nI z))]) C.x C.b dL_law_544 hl (by decide) rfl (fun ls hl => ?_)
    refine lv_aload_n C.x C.b dL_law_546 rfl (lv_at hl 5 rfl) ?_
    refine lv_bipush (v := (nI 9)) C.x C.b dL_law_547 (by decide) ?_
    refine lv_iload C.x C.b dL_law_549 (lv_at hl 3 rfl) ?_
    refine lv_ineg C.x C.b dL_law_551 ?_
    refine lv_iload C.x C.b dL_law_552 (lv_at hl 3 rfl) ?_
    refine lv_iload C.x C.b dL_law_554 (lv_at hl 2 rfl) ?_
    refine lv_iadd C.x C.b dL_law_556 ?_
    refine lv_iload C.x C.b dL_law_557 (lv_at hl 3 rfl) ?_
    refine lv_iload C.x C.b dL_law_559 (lv_at hl 0 rfl) ?_
    refine lv_iadd C.x C.b dL_law_561 ?_
    refine lv_iload C.x C.b dL_law_562 (lv_at hl 3 rfl) ?_
    refine lv_iload C.x C.b dL_law_564 (lv_at hl 2 rfl) ?_
    refine lv_iadd C.x C.b dL_law_566 ?_
    refine lv_iload C.x C.b dL_law_567 (lv_at hl 0 rfl) ?_
    refine lv_iadd C.x C.b dL_law_569 ?_
    obtain ⟨g1, g2⟩ := gk_yes a ha d hd2 his
    by_cases q8 : 8 ≤ m.ng
    ·
      refine k_actI (As := [.ref h, .int (nI 9), .int (-(nI (1 + a))), .int ((nI (1 + a)) + (nI (1 + d))), .int ((nI (1 + a)) + (nI (gcC a d))), .int (((nI (1 + a)) + (nI (1 + d))) + (nI (gcC a d)))]) (rest := []) (c2 := cells + 8) (s2 := slots + 64) (v := (-7000003)) (m1 := m) C hX (act_9 hI.hd (-(nI (1 + a))) ((nI (1 + a)) + (nI (1 + d))) ((nI (1 + a)) + (nI (gcC a d))) (((nI (1 + a)) + (nI (1 + d))) + (nI (gcC a d))) (iop_gasket hst hI (-(nI (1 + a))) ((nI (1 + a)) + (nI (1 + d))) ((nI (1 + a)) + (nI (gcC a d))) (((nI (1 + a)) + (nI (1 + d))) + (nI (gcC a d))))) (e_gasket_s g1 q8) (rfl) (gl_same inv_L_act) rfl hl.1 rfl (Nat.le_of_ble_eq_true rfl) dL_law_570 ⟨by omega, by omega⟩ ⟨by omega, by omega⟩ (by omega) (by omega) (fun f H locs hX hI => ?_)
      refine lv_lstore (lv' := [(16, .long (-7000003)), (15, .int (nI (gcC a d))), (14, .int (nI 1)), (13, .int (nI (1 + d))), (12, .int (nI (1 + a))), (0, .ref b), (1, .ref h), (2, .int (nI m.nd)), (3, .int (nI m.ng)), (4, .int (nI m.nm)), (5, .int (nI m.nc)), (6, .int (nI m.nw)), (7, .int (nI k)), (8, .int (nI x)), (9, .int (nI 6)), (10, .int (nI y)), (11, .int (nI z))]) C.x C.b dL_law_573 hl (by decide) rfl (fun ls hl => ?_)
      refine lv_iload C.x C.b dL_law_575 (lv_at hl 2 rfl) ?_
      refine lv_if_ne (tgt := 588) C.x C.b dL_law_577 (by decide) (fun _ => ?_) (fun q9 => absurd q9 (by decide))
      refine lv_iload C.x C.b dL_law_588 (lv_at hl 2 rfl) ?_
      refine lv_if_eq (tgt := 614) C.x C.b dL_law_590 (by decide) (fun q9 => absurd q9 (by decide)) (fun _ => ?_)
      refine lv_lload C.x C.b dL_law_593 (lv_at hl 0 rfl) ?_
      refine lv_iload_n C.x C.b dL_law_595 rfl (lv_at hl 8 rfl) ?_
      refine lv_bipush (v := (nI 8)) C.x C.b dL_law_596 (by decide) ?_
      refine lv_icmp_ge (tgt := 605) C.x C.b dL_law_598 (by decide) (fun _ => ?_) (fun q9 => absurd (nI_le q8 (by omega)) q9)
      refine lv_ldc (v := (-7000003)) C.x C.b C.ow (C.ts _ lkC_3) dL_law_605 ?_
      refine lv_i2l (v := (-7000003).toInt64) C.x C.b dL_law_607 rfl ?_
      refine k_topl (y := (-7000003)) (by decide) ?_
      refine k_lcmp_eq (tgt := 614) C.x C.b dL_law_608 dL_law_609 (by decide) (fun _ => ?_) (fun q9 => absurd (by decide) q9)
      refine lv_iload_n C.x C.b dL_law_614 rfl (lv_at hl 8 rfl) ?_
      refine lv_iload C.x C.b dL_law_615 (lv_at hl 2 rfl) ?_
      refine lv_if_eq (tgt := 630) C.x C.b dL_law_617 (by decide) (fun q9 => absurd q9 (by decide)) (fun _ => ?_)
      refine lv_iload_n C.x C.b dL_law_620 rfl (lv_at hl 8 rfl) ?_
      refine lv_bipush (v := (nI 8)) C.x C.b dL_law_621 (by decide) ?_
      refine lv_icmp_ge (tgt := 630) C.x C.b dL_law_623 (by decide) (fun _ => ?_) (fun q9 => absurd (nI_le q8 (by omega)) q9)
      refine lv_iconst (v := (nI 0)) C.x C.b dL_law_630 (by decide) ?_
      refine lv_iadd C.x C.b dL_law_631 ?_
      refine k_topi (y := (nI m.ng)) (nI_add _ 0) ?_
      refine lv_istore_n (lv' := [(3, .int (nI m.ng)), (16, .long (-7000003)), (15, .int (nI (gcC a d))), (14, .int (nI 1)), (13, .int (nI (1 + d))), (12, .int (nI (1 + a))), (0, .ref b), (1, .ref h), (2, .int (nI m.nd)), (4, .int (nI m.nm)), (5, .int (nI m.nc)), (6, .int (nI m.nw)), (7, .int (nI k)), (8, .int (nI x)), (9, .int (nI 6)), (10, .int (nI y)), (11, .int (nI z))]) C.x C.b dL_law_632 rfl hl (by decide) rfl (fun ls hl => ?_)
      refine lv_iload C.x C.b dL_law_633 (lv_at hl 3 rfl) ?_
      refine lv_if_eq (tgt := 681) C.x C.b dL_law_635 (by decide) (fun q9 => absurd q9 (by decide)) (fun _ => ?_)
      refine lv_lload C.x C.b dL_law_638 (lv_at hl 1 rfl) ?_
      refine lv_lconst (v := 0) C.x C.b dL_law_640 (by decide) ?_
      refine k_lcmp_lt (tgt := 681) C.x C.b dL_law_641 dL_law_642 (by decide) (fun _ => ?_) (fun q9 => absurd (by decide) q9)
      refine lv_goto (tgt := 1207) C.x C.b dL_law_681 (by decide) ?_
      refine W.widen (k := cells + 2000) (n := slots + 16000) (by omega) (by omega) ?_
      exact K f H locs m ls hX hI hd (lv_sub hl [6, 7, 8, 0, 9, 10, 11, 12] rfl)
    ·
      obtain ⟨w0, cv, g3, g4, g5, g6⟩ := gk_new (m := m) (by omega) g2
      refine k_actI (As := [.ref h, .int (nI 9), .int (-(nI (1 + a))), .int ((nI (1 + a)) + (nI (1 + d))), .int ((nI (1 + a)) + (nI (gcC a d))), .int (((nI (1 + a)) + (nI (1 + d))) + (nI (gcC a d)))]) (rest := []) (c2 := cells + 8) (s2 := slots + 64) (v := (nI m.ng).toInt64) (m1 := (pMk m.cc m.fc m.nd (m.ng + 1) m.nm m.nc m.nw m.fa m.dx m.dy m.dr (pB19 m.fo m.ng (-(nI (1 + a))).toInt64 ((nI (1 + a)) + (nI (1 + d))).toInt64 ((nI (1 + a)) + (nI (gcC a d))).toInt64 (((nI (1 + a)) + (nI (1 + d))) + (nI (gcC a d))).toInt64) (pB19 m.ro m.ng (xLeast (-(nI (1 + a))).toInt64 ((nI (1 + a)) + (nI (1 + d))).toInt64 ((nI (1 + a)) + (nI (gcC a d))).toInt64 (((nI (1 + a)) + (nI (1 + d))) + (nI (gcC a d))).toInt64 0) (xLeast (-(nI (1 + a))).toInt64 ((nI (1 + a)) + (nI (1 + d))).toInt64 ((nI (1 + a)) + (nI (gcC a d))).toInt64 (((nI (1 + a)) + (nI (1 + d))) + (nI (gcC a d))).toInt64 1) (xLeast (-(nI (1 + a))).toInt64 ((nI (1 + a)) + (nI (1 + d))).toInt64 ((nI (1 + a)) + (nI (gcC a d))).toInt64 (((nI (1 + a)) + (nI (1 + d))) + (nI (gcC a d))).toInt64 2) (xLeast (-(nI (1 + a))).toInt64 ((nI (1 + a)) + (nI (1 + d))).toInt64 ((nI (1 + a)) + (nI (gcC a d))).toInt64 (((nI (1 + a)) + (nI (1 + d))) + (nI (gcC a d))).toInt64 3)) m.mv m.pr m.ea m.eb)) C hX (act_9 hI.hd (-(nI (1 + a))) ((nI (1 + a)) + (nI (1 + d))) ((nI (1 + a)) + (nI (gcC a d))) (((nI (1 + a)) + (nI (1 + d))) + (nI (gcC a d))) (iop_gasket hst hI (-(nI (1 + a))) ((nI (1 + a)) + (nI (1 + d))) ((nI (1 + a)) + (nI (gcC a d))) (((nI (1 + a)) + (nI (1 + d))) + (nI (gcC a d))))) (ev_gasket m.ng g1 q8 rfl rfl) (rfl) (gl_same inv_L_act) rfl hl.1 rfl (Nat.le_of_ble_eq_true rfl) dL_law_570 ⟨by omega, by omega⟩ ⟨by omega, by omega⟩ (by omega) (by omega) (fun f H locs hX hI => ?_)
      refine lv_lstore (lv' := [(16, .long ((nI m.ng).toInt64)), (15, .int (nI (gcC a d))), (14, .int (nI 1)), (13, .int (nI (1 + d))), (12, .int (nI (1 + a))), (0, .ref b), (1, .ref h), (2, .int (nI m.nd)), (3, .int (nI m.ng)), (4, .int (nI m.nm)), (5, .int (nI m.nc)), (6, .int (nI m.nw)), (7, .int (nI k)), (8, .int (nI x)), (9, .int (nI 6)), (10, .int (nI y)), (11, .int (nI z))]) C.x C.b dL_law_573 hl (by decide) rfl (fun ls hl => ?_)
      refine lv_iload C.x C.b dL_law_575 (lv_at hl 2 rfl) ?_
      refine lv_if_ne (tgt := 588) C.x C.b dL_law_577 (by decide) (fun _ => ?_) (fun q9 => absurd q9 (by decide))
      refine lv_iload C.x C.b dL_law_588 (lv_at hl 2 rfl) ?_
      refine lv_if_eq (tgt := 614) C.x C.b dL_law_590 (by decide) (fun q9 => absurd q9 (by decide)) (fun _ => ?_)
      refine lv_lload C.x C.b dL_law_593 (lv_at hl 0 rfl) ?_
      refine lv_iload_n C.x C.b dL_law_595 rfl (lv_at hl 8 rfl) ?_
      refine lv_bipush (v := (nI 8)) C.x C.b dL_law_596 (by decide) ?_
      refine lv_icmp_ge (tgt := 605) C.x C.b dL_law_598 (by decide) (fun q9 => absurd q9 (nI_ge (by omega) (by decide))) (fun _ => ?_)
      refine lv_iload_n C.x C.b dL_law_601 rfl (lv_at hl 8 rfl) ?_
      refine lv_goto (tgt := 607) C.x C.b dL_law_602 (by decide) ?_
      refine lv_i2l (v := (nI m.ng).toInt64) C.x C.b dL_law_607 rfl ?_
      refine k_lcmp_eq (tgt := 614) C.x C.b dL_law_608 dL_law_609 (by decide) (fun _ => ?_) (fun q9 => absurd (rfl) q9)
      refine lv_iload_n C.x C.b dL_law_614 rfl (lv_at hl 8 rfl) ?_
      refine lv_iload C.x C.b dL_law_615 (lv_at hl 2 rfl) ?_
      refine lv_if_eq (tgt := 630) C.x C.b dL_law_617 (by decide) (fun q9 => absurd q9 (by decide)) (fun _ => ?_)
      refine lv_iload_n C.x C.b dL_law_620 rfl (lv_at hl 8 rfl) ?_
      refine lv_bipush (v := (nI 8)) C.x C.b dL_law_621 (by decide) ?_
      refine lv_icmp_ge (tgt := 630) C.x C.b dL_law_623 (by decide) (fun q9 => absurd q9 (nI_ge (by omega) (by decide))) (fun _ => ?_)
      refine lv_iconst (v := (nI 1)) C.x C.b dL_law_626 (by decide) ?_
      refine lv_goto (tgt := 631) C.x C.b dL_law_627 (by decide) ?_
      refine lv_iadd C.x C.b dL_law_631 ?_
      refine k_topi (y := (nI (m.ng + 1))) (nI_add _ _) ?_
      refine lv_istore_n (lv' := [(3, .int (nI (m.ng + 1))), (16, .long ((nI m.ng).toInt64)), (15, .int (nI (gcC a d))), (14, .int (nI 1)), (13, .int (nI (1 + d))), (12, .int (nI (1 + a))), (0, .ref b), (1, .ref h), (2, .int (nI m.nd)), (4, .int (nI m.nm)), (5, .int (nI m.nc)), (6, .int (nI m.nw)), (7, .int (nI k)), (8, .int (nI x)), (9, .int (nI 6)), (10, .int (nI y)), (11, .int (nI z))]) C.x C.b dL_law_632 rfl hl (by decide) rfl (fun ls hl => ?_)
      refine lv_iload C.x C.b dL_law_633 (lv_at hl 3 rfl) ?_
      refine lv_if_eq (tgt := 681) C.x C.b dL_law_635 (by decide) (fun q9 => absurd q9 (by decide)) (fun _ => ?_)
      refine lv_lload C.x C.b dL_law_638 (lv_at hl 1 rfl) ?_
      refine lv_lconst (v := 0) C.x C.b dL_law_640 (by decide) ?_
      refine k_lcmp_lt (tgt := 681) C.x C.b dL_law_641 dL_law_642 (by decide) (fun q9 => absurd q9 (lN_nn _ (by omega))) (fun _ => ?_)
      refine lv_aload_n C.x C.b dL_law_645 rfl (lv_at hl 7 rfl) ?_
      refine lv_lload C.x C.b dL_law_646 (lv_at hl 1 rfl) ?_
      refine lv_l2i (v := ((nI m.ng).toInt64).toInt32) C.x C.b dL_law_648 rfl ?_
      refine k_topi (y := (nI m.ng)) (l32 (by omega)) ?_
      refine lv_iconst (v := (nI 0)) C.x C.b dL_law_649 (by decide) ?_
      refine k_cJ (As := [.int (nI m.ng), .int (nI 0)]) (rest := []) (c2 := cells + 16) (s2 := slots + 128) (v := w0) (m1 := (pMk m.cc m.fc m.nd (m.ng + 1) m.nm m.nc m.nw m.fa m.dx m.dy m.dr (pB19 m.fo m.ng (-(nI (1 + a))).toInt64 ((nI (1 + a)) + (nI (1 + d))).toInt64 ((nI (1 + a)) + (nI (gcC a d))).toInt64 (((nI (1 + a)) + (nI (1 + d))) + (nI (gcC a d))).toInt64) (pB19 m.ro m.ng (xLeast (-(nI (1 + a))).toInt64 ((nI (1 + a)) + (nI (1 + d))).toInt64 ((nI (1 + a)) + (nI (gcC a d))).toInt64 (((nI (1 + a)) + (nI (1 + d))) + (nI (gcC a d))).toInt64 0) (xLeast (-(nI (1 + a))).toInt64 ((nI (1 + a)) + (nI (1 + d))).toInt64 ((nI (1 + a)) + (nI (gcC a d))).toInt64 (((nI (1 + a)) + (nI (1 + d))) + (nI (gcC a d))).toInt64 1) (xLeast (-(nI (1 + a))).toInt64 ((nI (1 + a)) + (nI (1 + d))).toInt64 ((nI (1 + a)) + (nI (gcC a d))).toInt64 (((nI (1 + a)) + (nI (1 + d))) + (nI (gcC a d))).toInt64 2) (xLeast (-(nI (1 + a))).toInt64 ((nI (1 + a)) + (nI (1 + d))).toInt64 ((nI (1 + a)) + (nI (gcC a d))).toInt64 (((nI (1 + a)) + (nI (1 + d))) + (nI (gcC a d))).toInt64 3)) m.mv m.pr m.ea m.eb)) C hX (iop_root hst hI (nI m.ng) (nI 0)) (g4) hI.hd (gl_same inv_X8_root) rfl ⟨rfl, hdA_X8_root⟩ (by decide) rfl hl.1 rfl (Nat.le_of_ble_eq_true rfl) dL_law_650 ⟨by omega, by omega⟩ ⟨by omega, by omega⟩ (by omega) (by omega) (fun f H locs hX hI => ?_)
      refine lv_lconst (v := 0) C.x C.b dL_law_653 (by decide) ?_
      refine k_lcmp_ge (tgt := 679) C.x C.b dL_law_654 dL_law_655 (by decide) (fun q9 => absurd (g3) q9) (fun _ => ?_)
      refine lv_aload_n C.x C.b dL_law_658 rfl (lv_at hl 7 rfl) ?_
      refine lv_lload C.x C.b dL_law_659 (lv_at hl 1 rfl) ?_
      refine lv_l2i (v := ((nI m.ng).toInt64).toInt32) C.x C.b dL_law_661 rfl ?_
      refine k_topi (y := (nI m.ng)) (l32 (by omega)) ?_
      refine lv_bipush (v := (nI 60)) C.x C.b dL_law_662 (by decide) ?_
      refine k_cI (As := [.int (nI m.ng), .int (nI 60)]) (rest := []) (c2 := cells + 24) (s2 := slots + 192) (v := cv) (m1 := (pMk m.cc m.fc m.nd (m.ng + 1) m.nm m.nc m.nw m.fa m.dx m.dy m.dr (pB19 m.fo m.ng (-(nI (1 + a))).toInt64 ((nI (1 + a)) + (nI (1 + d))).toInt64 ((nI (1 + a)) + (nI (gcC a d))).toInt64 (((nI (1 + a)) + (nI (1 + d))) + (nI (gcC a d))).toInt64) (pB19 m.ro m.ng (xLeast (-(nI (1 + a))).toInt64 ((nI (1 + a)) + (nI (1 + d))).toInt64 ((nI (1 + a)) + (nI (gcC a d))).toInt64 (((nI (1 + a)) + (nI (1 + d))) + (nI (gcC a d))).toInt64 0) (xLeast (-(nI (1 + a))).toInt64 ((nI (1 + a)) + (nI (1 + d))).toInt64 ((nI (1 + a)) + (nI (gcC a d))).toInt64 (((nI (1 + a)) + (nI (1 + d))) + (nI (gcC a d))).toInt64 1) (xLeast (-(nI (1 + a))).toInt64 ((nI (1 + a)) + (nI (1 + d))).toInt64 ((nI (1 + a)) + (nI (gcC a d))).toInt64 (((nI (1 + a)) + (nI (1 + d))) + (nI (gcC a d))).toInt64 2) (xLeast (-(nI (1 + a))).toInt64 ((nI (1 + a)) + (nI (1 + d))).toInt64 ((nI (1 + a)) + (nI (gcC a d))).toInt64 (((nI (1 + a)) + (nI (1 + d))) + (nI (gcC a d))).toInt64 3)) m.mv m.pr m.ea m.eb)) C hX (iop_count hst hI (nI m.ng) (nI 60)) (g5) hI.hd (gl_same inv_X8_count) rfl ⟨rfl, hdA_X8_count⟩ (by decide) rfl hl.1 rfl (Nat.le_of_ble_eq_true rfl) dL_law_664 ⟨by omega, by omega⟩ ⟨by omega, by omega⟩ (by omega) (by omega) (fun f H locs hX hI => ?_)
      refine lv_aload_n C.x C.b dL_law_667 rfl (lv_at hl 7 rfl) ?_
      refine lv_lload C.x C.b dL_law_668 (lv_at hl 1 rfl) ?_
      refine lv_l2i (v := ((nI m.ng).toInt64).toInt32) C.x C.b dL_law_670 rfl ?_
      refine k_topi (y := (nI m.ng)) (l32 (by omega)) ?_
      refine lv_bipush (v := (nI 60)) C.x C.b dL_law_671 (by decide) ?_
      refine k_cI (As := [.int (nI m.ng), .int (nI 60)]) (rest := [.int cv]) (c2 := cells + 32) (s2 := slots + 256) (v := cv) (m1 := (pMk m.cc m.fc m.nd (m.ng + 1) m.nm m.nc m.nw m.fa m.dx m.dy m.dr (pB19 m.fo m.ng (-(nI (1 + a))).toInt64 ((nI (1 + a)) + (nI (1 + d))).toInt64 ((nI (1 + a)) + (nI (gcC a d))).toInt64 (((nI (1 + a)) + (nI (1 + d))) + (nI (gcC a d))).toInt64) (pB19 m.ro m.ng (xLeast (-(nI (1 + a))).toInt64 ((nI (1 + a)) + (nI (1 + d))).toInt64 ((nI (1 + a)) + (nI (gcC a d))).toInt64 (((nI (1 + a)) + (nI (1 + d))) + (nI (gcC a d))).toInt64 0) (xLeast (-(nI (1 + a))).toInt64 ((nI (1 + a)) + (nI (1 + d))).toInt64 ((nI (1 + a)) + (nI (gcC a d))).toInt64 (((nI (1 + a)) + (nI (1 + d))) + (nI (gcC a d))).toInt64 1) (xLeast (-(nI (1 + a))).toInt64 ((nI (1 + a)) + (nI (1 + d))).toInt64 ((nI (1 + a)) + (nI (gcC a d))).toInt64 (((nI (1 + a)) + (nI (1 + d))) + (nI (gcC a d))).toInt64 2) (xLeast (-(nI (1 + a))).toInt64 ((nI (1 + a)) + (nI (1 + d))).toInt64 ((nI (1 + a)) + (nI (gcC a d))).toInt64 (((nI (1 + a)) + (nI (1 + d))) + (nI (gcC a d))).toInt64 3)) m.mv m.pr m.ea m.eb)) C hX (iop_countAnew hst hI (nI m.ng) (nI 60)) (g6) hI.hd (gl_same inv_X8_countAnew) rfl ⟨rfl, hdA_X8_countAnew⟩ (by decide) rfl hl.1 rfl (Nat.le_of_ble_eq_true rfl) dL_law_673 ⟨by omega, by omega⟩ ⟨by omega, by omega⟩ (by omega) (by omega) (fun f H locs hX hI => ?_)
      refine lv_icmp_eq (tgt := 681) C.x C.b dL_law_676 (by decide) (fun _ => ?_) (fun q9 => absurd (rfl) q9)
      refine lv_goto (tgt := 1207) C.x C.b dL_law_681 (by decide) ?_
      refine W.widen (k := cells + 2000) (n := slots + 16000) (by omega) (by omega) ?_
      exact K f H locs (pMk m.cc m.fc m.nd (m.ng + 1) m.nm m.nc m.nw m.fa m.dx m.dy m.dr (pB19 m.fo m.ng (-(nI (1 + a))).toInt64 ((nI (1 + a)) + (nI (1 + d))).toInt64 ((nI (1 + a)) + (nI (gcC a d))).toInt64 (((nI (1 + a)) + (nI (1 + d))) + (nI (gcC a d))).toInt64) (pB19 m.ro m.ng (xLeast (-(nI (1 + a))).toInt64 ((nI (1 + a)) + (nI (1 + d))).toInt64 ((nI (1 + a)) + (nI (gcC a d))).toInt64 (((nI (1 + a)) + (nI (1 + d))) + (nI (gcC a d))).toInt64 0) (xLeast (-(nI (1 + a))).toInt64 ((nI (1 + a)) + (nI (1 + d))).toInt64 ((nI (1 + a)) + (nI (gcC a d))).toInt64 (((nI (1 + a)) + (nI (1 + d))) + (nI (gcC a d))).toInt64 1) (xLeast (-(nI (1 + a))).toInt64 ((nI (1 + a)) + (nI (1 + d))).toInt64 ((nI (1 + a)) + (nI (gcC a d))).toInt64 (((nI (1 + a)) + (nI (1 + d))) + (nI (gcC a d))).toInt64 2) (xLeast (-(nI (1 + a))).toInt64 ((nI (1 + a)) + (nI (1 + d))).toInt64 ((nI (1 + a)) + (nI (gcC a d))).toInt64 (((nI (1 + a)) + (nI (1 + d))) + (nI (gcC a d))).toInt64 3)) m.mv m.pr m.ea m.eb) ls hX hI hd (lv_sub hl [6, 7, 8, 0, 9, 10, 11, 12] rfl)
  ·
    have hlt : (1 + a) * (1 + a) % (1 + d) < 7 := Nat.lt_of_lt_of_le (Nat.mod_lt _ (by omega)) (by omega)
    refine lv_if_ne (tgt := 533) C.x C.b dL_law_526 (by decide) (fun _ => ?_) (fun q9 => absurd q9 (nI_ne0 (Nat.pos_of_ne_zero his) (Nat.lt_trans hlt (by decide))))
    refine lv_iconst (v := (nI 0)) C.x C.b dL_law_533 (by decide) ?_
    refine lv_istore (lv' := [(14, .int (nI 0)), (13, .int (nI (1 + d))), (12, .int (nI (1 + a))), (0, .ref b), (1, .ref h), (2, .int (nI m.nd)), (3, .int (nI m.ng)), (4, .int (nI m.nm)), (5, .int (nI m.nc)), (6, .int (nI m.nw)), (7, .int (nI k)), (8, .int (nI x)), (9, .int (nI 6)), (10, .int (nI y)), (11, .int (nI z))]) C.x C.b dL_law_534 hl (by decide) rfl (fun ls hl => ?_)
    refine lv_iload C.x C.b dL_law_536 (lv_at hl 2 rfl) ?_
    refine lv_iload C.x C.b dL_law_538 (lv_at hl 2 rfl) ?_
    refine lv_imul C.x C.b dL_law_540 ?_
    refine lv_iload C.x C.b dL_law_541 (lv_at hl 1 rfl) ?_
    refine lv_idiv C.x C.b dL_law_543 (nI_ne0 (by omega) (by omega)) ?_
    refine k_topi (y := (nI (gcC a d))) (gk_div a ha d hd2) ?_
    refine lv_istore (lv' := [(15, .int (nI (gcC a d))), (14, .int (nI 0)), (13, .int (nI (1 + d))), (12, .int (nI (1 + a))), (0, .ref b), (1, .ref h), (2, .int (nI m.nd)), (3, .int (nI m.ng)), (4, .int (nI m.nm)), (5, .int (nI m.nc)), (6, .int (nI m.nw)), (7, .int (nI k)), (8, .int (nI x)), (9, .int (nI 6)), (10, .int (nI y)), (11, .int (nI z))]) C.x C.b dL_law_544 hl (by decide) rfl (fun ls hl => ?_)
    refine lv_aload_n C.x C.b dL_law_546 rfl (lv_at hl 5 rfl) ?_
    refine lv_bipush (v := (nI 9)) C.x C.b dL_law_547 (by decide) ?_
    refine lv_iload C.x C.b dL_law_549 (lv_at hl 3 rfl) ?_
    refine lv_ineg C.x C.b dL_law_551 ?_
    refine lv_iload C.x C.b dL_law_552 (lv_at hl 3 rfl) ?_
    refine lv_iload C.x C.b dL_law_554 (lv_at hl 2 rfl) ?_
    refine lv_iadd C.x C.b dL_law_556 ?_
    refine lv_iload C.x C.b dL_law_557 (lv_at hl 3 rfl) ?_
    refine lv_iload C.x C.b dL_law_559 (lv_at hl 0 rfl) ?_
    refine lv_iadd C.x C.b dL_law_561 ?_
    refine lv_iload C.x C.b dL_law_562 (lv_at hl 3 rfl) ?_
    refine lv_iload C.x C.b dL_law_564 (lv_at hl 2 rfl) ?_
    refine lv_iadd C.x C.b dL_law_566 ?_
    refine lv_iload C.x C.b dL_law_567 (lv_at hl 0 rfl) ?_
    refine lv_iadd C.x C.b dL_law_569 ?_
    refine k_actI (As := [.ref h, .int (nI 9), .int (-(nI (1 + a))), .int ((nI (1 + a)) + (nI (1 + d))), .int ((nI (1 + a)) + (nI (gcC a d))), .int (((nI (1 + a)) + (nI (1 + d))) + (nI (gcC a d)))]) (rest := []) (c2 := cells + 8) (s2 := slots + 64) (v := (-7000002)) (m1 := m) C hX (act_9 hI.hd (-(nI (1 + a))) ((nI (1 + a)) + (nI (1 + d))) ((nI (1 + a)) + (nI (gcC a d))) (((nI (1 + a)) + (nI (1 + d))) + (nI (gcC a d))) (iop_gasket hst hI (-(nI (1 + a))) ((nI (1 + a)) + (nI (1 + d))) ((nI (1 + a)) + (nI (gcC a d))) (((nI (1 + a)) + (nI (1 + d))) + (nI (gcC a d))))) (e_gasket_a (gk_no a ha d hd2 his)) (rfl) (gl_same inv_L_act) rfl hl.1 rfl (Nat.le_of_ble_eq_true rfl) dL_law_570 ⟨by omega, by omega⟩ ⟨by omega, by omega⟩ (by omega) (by omega) (fun f H locs hX hI => ?_)
    refine lv_lstore (lv' := [(16, .long (-7000002)), (15, .int (nI (gcC a d))), (14, .int (nI 0)), (13, .int (nI (1 + d))), (12, .int (nI (1 + a))), (0, .ref b), (1, .ref h), (2, .int (nI m.nd)), (3, .int (nI m.ng)), (4, .int (nI m.nm)), (5, .int (nI m.nc)), (6, .int (nI m.nw)), (7, .int (nI k)), (8, .int (nI x)), (9, .int (nI 6)), (10, .int (nI y)), (11, .int (nI z))]) C.x C.b dL_law_573 hl (by decide) rfl (fun ls hl => ?_)
    refine lv_iload C.x C.b dL_law_575 (lv_at hl 2 rfl) ?_
    refine lv_if_ne (tgt := 588) C.x C.b dL_law_577 (by decide) (fun q9 => absurd (by decide) q9) (fun _ => ?_)
    refine lv_lload C.x C.b dL_law_580 (lv_at hl 0 rfl) ?_
    refine lv_iload_n C.x C.b dL_law_582 rfl (lv_at hl 8 rfl) ?_
    refine lv_i2l (v := (nI m.ng).toInt64) C.x C.b dL_law_583 rfl ?_
    refine k_lcmp_eq (tgt := 612) C.x C.b dL_law_584 dL_law_585 (by decide) (fun q9 => absurd q9 (lN_ne2 _ (by omega))) (fun _ => ?_)
    refine lv_iload C.x C.b dL_law_588 (lv_at hl 2 rfl) ?_
    refine lv_if_eq (tgt := 614) C.x C.b dL_law_590 (by decide) (fun _ => ?_) (fun q9 => absurd (by decide) q9)
    refine lv_iload_n C.x C.b dL_law_614 rfl (lv_at hl 8 rfl) ?_
    refine lv_iload C.x C.b dL_law_615 (lv_at hl 2 rfl) ?_
    refine lv_if_eq (tgt := 630) C.x C.b dL_law_617 (by decide) (fun _ => ?_) (fun q9 => absurd (by decide) q9)
    refine lv_iconst (v := (nI 0)) C.x C.b dL_law_630 (by decide) ?_
    refine lv_iadd C.x C.b dL_law_631 ?_
    refine k_topi (y := (nI m.ng)) (nI_add _ 0) ?_
    refine lv_istore_n (lv' := [(3, .int (nI m.ng)), (16, .long (-7000002)), (15, .int (nI (gcC a d))), (14, .int (nI 0)), (13, .int (nI (1 + d))), (12, .int (nI (1 + a))), (0, .ref b), (1, .ref h), (2, .int (nI m.nd)), (4, .int (nI m.nm)), (5, .int (nI m.nc)), (6, .int (nI m.nw)), (7, .int (nI k)), (8, .int (nI x)), (9, .int (nI 6)), (10, .int (nI y)), (11, .int (nI z))]) C.x C.b dL_law_632 rfl hl (by decide) rfl (fun ls hl => ?_)
    refine lv_iload C.x C.b dL_law_633 (lv_at hl 3 rfl) ?_
    refine lv_if_eq (tgt := 681) C.x C.b dL_law_635 (by decide) (fun _ => ?_) (fun q9 => absurd (by decide) q9)
    refine lv_goto (tgt := 1207) C.x C.b dL_law_681 (by decide) ?_
    refine W.widen (k := cells + 2000) (n := slots + 16000) (by omega) (by omega) ?_
    exact K f H locs m ls hX hI hd (lv_sub hl [6, 7, 8, 0, 9, 10, 11, 12] rfl)
set_option maxHeartbeats 8000000 in
set_option maxRecDepth 100000 in
theorem law_w7a (hst : l.stackTraces = false) (C : kC G B0 p mi c cL_law 18 s args wsL_law RL) (hX : kX G B0 s f H locs) (hR : 400 ≤ R.frames ∧ 24000 ≤ R.locals) (hcl : cells + 2000 ≤ R.cells ∧ slots + 16000 ≤ R.slots) (hI : Inv G h f m) (hd : dInv m) (hx : x < 16777216) (hy : y < 16777216) (hz : z < 16777216) (h0 : 0 < m.ng) (hl : lv_has ls 18 [(0, .ref b), (1, .ref h), (2, .int (nI m.nd)), (3, .int (nI m.ng)), (4, .int (nI m.nm)), (5, .int (nI m.nc)), (6, .int (nI m.nw)), (7, .int (nI k)), (8, .int (nI x)), (9, .int (nI 7)), (10, .int (nI y)), (11, .int (nI z))])
    (K : ∀ (f1 : kH) (H1 : Heap) (locs1 : List Loc) (m1 : pSt) (ls1 : Array Slot), kX G B0 s f1 H1 locs1 → Inv G h f1 m1 → dInv m1 → lv_has ls1 18 (lwB b h m1 k) → W p l e R s mi args below meth c H1 locs1 (cells + 2000) (slots + 16000) Q (F0 mi 1207 ls1 [])) : W p l e R s mi args below meth c H locs cells slots Q (F0 mi 85 ls []) := by
  obtain ⟨b4, b16, bf, bd, bg, bm, bc2, bc6, bw⟩ := hI.bd
  obtain ⟨i, hi, ei⟩ : ∃ i, i < m.ng ∧ y % m.ng = i := ⟨_, Nat.mod_lt _ (h0), rfl⟩
  obtain ⟨q, hq, eq⟩ : ∃ q, q < 4 ∧ z % 4 = q := ⟨_, Nat.mod_lt _ (by decide), rfl⟩
  have h15 := hI.fo15 hi hq
  refine lv_iload C.x C.b dL_law_85 (lv_at hl 9 rfl) ?_
  refine lv_iconst (v := (nI 2)) C.x C.b dL_law_87 (by decide) ?_
  refine lv_icmp_ge (tgt := 138) C.x C.b dL_law_88 (by decide) (fun _ => ?_) (fun q9 => absurd (by decide) q9)
  refine lv_iload C.x C.b dL_law_138 (lv_at hl 9 rfl) ?_
  refine lv_iconst (v := (nI 4)) C.x C.b dL_law_140 (by decide) ?_
  refine lv_icmp_ge (tgt := 304) C.x C.b dL_law_141 (by decide) (fun _ => ?_) (fun q9 => absurd (by decide) q9)
  refine lv_iload C.x C.b dL_law_304 (lv_at hl 9 rfl) ?_
  refine lv_bipush (v := (nI 6)) C.x C.b dL_law_306 (by decide) ?_
  refine lv_icmp_ge (tgt := 493) C.x C.b dL_law_308 (by decide) (fun _ => ?_) (fun q9 => absurd (by decide) q9)
  refine lv_iload C.x C.b dL_law_493 (lv_at hl 9 rfl) ?_
  refine lv_bipush (v := (nI 6)) C.x C.b dL_law_495 (by decide) ?_
  refine lv_icmp_ne (tgt := 684) C.x C.b dL_law_497 (by decide) (fun _ => ?_) (fun q9 => absurd q9 (by decide))
  refine lv_iload C.x C.b dL_law_684 (lv_at hl 9 rfl) ?_
  refine lv_bipush (v := (nI 7)) C.x C.b dL_law_686 (by decide) ?_
  refine lv_icmp_ne (tgt := 763) C.x C.b dL_law_688 (by decide) (fun q9 => absurd (by decide) q9) (fun _ => ?_)
  refine lv_iload_n C.x C.b dL_law_691 rfl (lv_at hl 3 rfl) ?_
  refine lv_if_le (tgt := 763) C.x C.b dL_law_692 (by decide) (fun q9 => absurd q9 (nI_nle h0 (by omega))) (fun _ => ?_)
  refine lv_iload C.x C.b dL_law_695 (lv_at hl 10 rfl) ?_
  refine lv_iload_n C.x C.b dL_law_697 rfl (lv_at hl 3 rfl) ?_
  refine lv_irem C.x C.b dL_law_698 (nI_ne0 h0 (by omega)) ?_
  refine k_topi (y := (nI i)) ((pk_rem (by omega) (by omega) (by omega)).trans (congrArg nI ei)) ?_
  refine lv_istore (lv' := [(12, .int (nI i)), (0, .ref b), (1, .ref h), (2, .int (nI m.nd)), (3, .int (nI m.ng)), (4, .int (nI m.nm)), (5, .int (nI m.nc)), (6, .int (nI m.nw)), (7, .int (nI k)), (8, .int (nI x)), (9, .int (nI 7)), (10, .int (nI y)), (11, .int (nI z))]) C.x C.b dL_law_699 hl (by decide) rfl (fun ls hl => ?_)
  refine lv_aload_n C.x C.b dL_law_701 rfl (lv_at hl 2 rfl) ?_
  refine lv_iload C.x C.b dL_law_702 (lv_at hl 0 rfl) ?_
  refine lv_iload C.x C.b dL_law_704 (lv_at hl 12 rfl) ?_
  refine lv_iconst (v := (nI 4)) C.x C.b dL_law_706 (by decide) ?_
  refine lv_irem C.x C.b dL_law_707 (by decide) ?_
  refine k_topi (y := (nI q)) ((pk_rem (by omega) (by omega) (by omega)).trans (congrArg nI eq)) ?_
  refine k_cJ (As := [.int (nI i), .int (nI q)]) (rest := []) (c2 := cells + 8) (s2 := slots + 64) (v := (m.fo (4 * i + q))) (m1 := m) C hX (iop_curvature hst hI (nI i) (nI q)) (ev_curvature ⟨mIn_in hi (by omega), ⟨by rw [nI_toInt (by omega)]; omega, by rw [nI_toInt (by omega)]; omega⟩⟩ (by rw [nI_clamp (by omega), nI_clamp (by omega)])) hI.hd (gl_same inv_X8_curvature) rfl ⟨rfl, hdA_X8_curvature⟩ (by decide) rfl hl.1 rfl (Nat.le_of_ble_eq_true rfl) dL_law_708 ⟨by omega, by omega⟩ ⟨by omega, by omega⟩ (by omega) (by omega) (fun f H locs hX hI => ?_)
  refine lv_lstore (lv' := [(13, .long (m.fo (4 * i + q))), (12, .int (nI i)), (0, .ref b), (1, .ref h), (2, .int (nI m.nd)), (3, .int (nI m.ng)), (4, .int (nI m.nm)), (5, .int (nI m.nc)), (6, .int (nI m.nw)), (7, .int (nI k)), (8, .int (nI x)), (9, .int (nI 7)), (10, .int (nI y)), (11, .int (nI z))]) C.x C.b dL_law_711 hl (by decide) rfl (fun ls hl => ?_)
  refine lv_aload_n C.x C.b dL_law_713 rfl (lv_at hl 3 rfl) ?_
  refine lv_bipush (v := (nI 10)) C.x C.b dL_law_714 (by decide) ?_
  refine lv_iload C.x C.b dL_law_716 (lv_at hl 1 rfl) ?_
  refine lv_iload C.x C.b dL_law_718 (lv_at hl 13 rfl) ?_
  refine lv_iconst (v := (nI 4)) C.x C.b dL_law_720 (by decide) ?_
  refine lv_irem C.x C.b dL_law_721 (by decide) ?_
  refine k_topi (y := (nI q)) ((pk_rem (by omega) (by omega) (by omega)).trans (congrArg nI eq)) ?_
  refine lv_iconst (v := (nI 0)) C.x C.b dL_law_722 (by decide) ?_
  refine lv_iconst (v := (nI 0)) C.x C.b dL_law_723 (by decide) ?_
  by_cases q15 : 1000000000000000 < (mTurned m.fo (4 * i) q)
  ·
    refine k_actJ (As := [.ref h, .int (nI 10), .int (nI i), .int (nI q), .int (nI 0), .int (nI 0)]) (rest := []) (c2 := cells + 16) (s2 := slots + 128) (v := (-7000003)) (m1 := m) C hX (act_10 hI.hd (nI i) (nI q) (nI 0) (nI 0) (iop_turn hst hI (nI i) (nI q))) (ev_turn_s i q ⟨mIn_in hi (by omega), ⟨by rw [nI_toInt (by omega)]; omega, by rw [nI_toInt (by omega)]; omega⟩⟩ (by omega) (by omega) q15) (rfl) (gl_same inv_L_act) rfl hl.1 rfl (Nat.le_of_ble_eq_true rfl) dL_law_724 ⟨by omega, by omega⟩ ⟨by omega, by omega⟩ (by omega) (by omega) (fun f H locs hX hI => ?_)
    refine lv_lstore (lv' := [(15, .long (-7000003)), (13, .long (m.fo (4 * i + q))), (12, .int (nI i)), (0, .ref b), (1, .ref h), (2, .int (nI m.nd)), (3, .int (nI m.ng)), (4, .int (nI m.nm)), (5, .int (nI m.nc)), (6, .int (nI m.nw)), (7, .int (nI k)), (8, .int (nI x)), (9, .int (nI 7)), (10, .int (nI y)), (11, .int (nI z))]) C.x C.b dL_law_727 hl (by decide) rfl (fun ls hl => ?_)
    refine lv_lload C.x C.b dL_law_729 (lv_at hl 0 rfl) ?_
    refine lv_ldc2 (v := (-7000003)) C.x C.b C.ow (C.ts _ lkC_4) dL_law_731 ?_
    refine k_lcmp_eq (tgt := 760) C.x C.b dL_law_734 dL_law_735 (by decide) (fun _ => ?_) (fun q9 => absurd (by decide) q9)
    refine lv_goto (tgt := 1207) C.x C.b dL_law_760 (by decide) ?_
    refine W.widen (k := cells + 2000) (n := slots + 16000) (by omega) (by omega) ?_
    exact K f H locs m ls hX hI hd (lv_sub hl [3, 4, 5, 6, 7, 8, 9, 10] rfl)
  ·
    refine k_actJ (As := [.ref h, .int (nI 10), .int (nI i), .int (nI q), .int (nI 0), .int (nI 0)]) (rest := []) (c2 := cells + 16) (s2 := slots + 128) (v := (mTurned m.fo (4 * i) q)) (m1 := (pMk m.cc m.fc m.nd m.ng m.nm m.nc m.nw m.fa m.dx m.dy m.dr (vp_updL m.fo (4 * i + q) (mTurned m.fo (4 * i) q)) m.ro m.mv m.pr m.ea m.eb)) C hX (act_10 hI.hd (nI i) (nI q) (nI 0) (nI 0) (iop_turn hst hI (nI i) (nI q))) (ev_turn i q ⟨mIn_in hi (by omega), ⟨by rw [nI_toInt (by omega)]; omega, by rw [nI_toInt (by omega)]; omega⟩⟩ (by omega) (by omega) rfl q15 rfl) (rfl) (gl_same inv_L_act) rfl hl.1 rfl (Nat.le_of_ble_eq_true rfl) dL_law_724 ⟨by omega, by omega⟩ ⟨by omega, by omega⟩ (by omega) (by omega) (fun f H locs hX hI => ?_)
    refine lv_lstore (lv' := [(15, .long (mTurned m.fo (4 * i) q)), (13, .long (m.fo (4 * i + q))), (12, .int (nI i)), (0, .ref b), (1, .ref h), (2, .int (nI m.nd)), (3, .int (nI m.ng)), (4, .int (nI m.nm)), (5, .int (nI m.nc)), (6, .int (nI m.nw)), (7, .int (nI k)), (8, .int (nI x)), (9, .int (nI 7)), (10, .int (nI y)), (11, .int (nI z))]) C.x C.b dL_law_727 hl (by decide) rfl (fun ls hl => ?_)
    refine lv_lload C.x C.b dL_law_729 (lv_at hl 0 rfl) ?_
    refine lv_ldc2 (v := (-7000003)) C.x C.b C.ow (C.ts _ lkC_4) dL_law_731 ?_
    by_cases q7 : (mTurned m.fo (4 * i) q) = -7000003
    ·
      refine k_lcmp_eq (tgt := 760) C.x C.b dL_law_734 dL_law_735 (by decide) (fun _ => ?_) (fun q9 => absurd (q7) q9)
      refine lv_goto (tgt := 1207) C.x C.b dL_law_760 (by decide) ?_
      refine W.widen (k := cells + 2000) (n := slots + 16000) (by omega) (by omega) ?_
      exact K f H locs (pMk m.cc m.fc m.nd m.ng m.nm m.nc m.nw m.fa m.dx m.dy m.dr (vp_updL m.fo (4 * i + q) (mTurned m.fo (4 * i) q)) m.ro m.mv m.pr m.ea m.eb) ls hX hI hd (lv_sub hl [3, 4, 5, 6, 7, 8, 9, 10] rfl)
    ·
      refine k_lcmp_eq (tgt := 760) C.x C.b dL_law_734 dL_law_735 (by decide) (fun q9 => absurd q9 (q7)) (fun _ => ?_)
      refine lv_aload_n C.x C.b dL_law_738 rfl (lv_at hl 4 rfl) ?_
      refine lv_bipush (v := (nI 10)) C.x C.b dL_law_739 (by decide) ?_
      refine lv_iload C.x C.b dL_law_741 (lv_at hl 2 rfl) ?_
      refine lv_iload C.x C.b dL_law_743 (lv_at hl 14 rfl) ?_
      refine lv_iconst (v := (nI 4)) C.x C.b dL_law_745 (by decide) ?_
      refine lv_irem C.x C.b dL_law_746 (by decide) ?_
      refine k_topi (y := (nI q)) ((pk_rem (by omega) (by omega) (by omega)).trans (congrArg nI eq)) ?_
      refine lv_iconst (v := (nI 0)) C.x C.b dL_law_747 (by decide) ?_
      refine lv_iconst (v := (nI 0)) C.x C.b dL_law_748 (by decide) ?_
      refine k_actJ (As := [.ref h, .int (nI 10), .int (nI i), .int (nI q), .int (nI 0), .int (nI 0)]) (rest := []) (c2 := cells + 24) (s2 := slots + 192) (v := (m.fo (4 * i + q))) (m1 := (pMk m.cc m.fc m.nd m.ng m.nm m.nc m.nw m.fa m.dx m.dy m.dr (vp_updL (vp_updL m.fo (4 * i + q) (mTurned m.fo (4 * i) q)) (4 * i + q) (m.fo (4 * i + q))) m.ro m.mv m.pr m.ea m.eb)) C hX (act_10 hI.hd (nI i) (nI q) (nI 0) (nI 0) (iop_turn hst hI (nI i) (nI q))) (ev_turn (m := (pMk m.cc m.fc m.nd m.ng m.nm m.nc m.nw m.fa m.dx m.dy m.dr (vp_updL m.fo (4 * i + q) (mTurned m.fo (4 * i) q)) m.ro m.mv m.pr m.ea m.eb)) i q ⟨mIn_in hi (by omega), ⟨by rw [nI_toInt (by omega)]; omega, by rw [nI_toInt (by omega)]; omega⟩⟩ (by omega) (by omega) (turn_back m.fo (4 * i) q hq _ rfl) (h15) rfl) (rfl) (gl_same inv_L_act) rfl hl.1 rfl (Nat.le_of_ble_eq_true rfl) dL_law_749 ⟨by omega, by omega⟩ ⟨by omega, by omega⟩ (by omega) (by omega) (fun f H locs hX hI => ?_)
      refine lv_lload C.x C.b dL_law_752 (lv_at hl 1 rfl) ?_
      refine k_lcmp_eq (tgt := 760) C.x C.b dL_law_754 dL_law_755 (by decide) (fun _ => ?_) (fun q9 => absurd (rfl) q9)
      refine lv_goto (tgt := 1207) C.x C.b dL_law_760 (by decide) ?_
      refine W.widen (k := cells + 2000) (n := slots + 16000) (by omega) (by omega) ?_
      exact K f H locs (pMk m.cc m.fc m.nd m.ng m.nm m.nc m.nw m.fa m.dx m.dy m.dr (vp_updL (vp_updL m.fo (4 * i + q) (mTurned m.fo (4 * i) q)) (4 * i + q) (m.fo (4 * i + q))) m.ro m.mv m.pr m.ea m.eb) ls hX hI hd (lv_sub hl [3, 4, 5, 6, 7, 8, 9, 10] rfl)
end LW2
