/-! the law's drawn calls: 82e.lawcase -/
theorem lkC_7 : Cond.constant RL 253 (-2000000000) ∈ wsL_law := upL _ (List.mem_of_getElem? (i := 7) (by decide +kernel))
theorem lkC_8 : Cond.constant RL 254 (2000000000) ∈ wsL_law := upL _ (List.mem_of_getElem? (i := 8) (by decide +kernel))
section LW4
variable {p : Program} {l : Launch} {e : Env} {R : Room} {s : State} {mi : MethodId} {args : Array Value} {below : List Frame} {meth : Method} {c : Code} {H : Heap} {locs : List Loc} {cells slots : Nat} {Q : State → Prop}
variable {ls : Array Slot} {G : kG} {B0 h b k x y z : Nat} {f : kH} {m : pSt}
set_option maxHeartbeats 8000000 in
set_option maxRecDepth 100000 in
theorem law_tW (hst : l.stackTraces = false) (C : kC G B0 p mi c cL_law 18 s args wsL_law RL) (hX : kX G B0 s f H locs) (hR : 400 ≤ R.frames ∧ 24000 ≤ R.locals) (hcl : cells + 500 ≤ R.cells ∧ slots + 4000 ≤ R.slots) (hI : Inv G h f m) (hd : dInv m) (hx : x < 16777216) (hy : y < 16777216) (hz : z < 16777216) {w1 w2 : Int64} (hw1 : w1.toInt.natAbs ≤ 1000000000) (hw2 : w2.toInt.natAbs ≤ 1000000000) (hl : lv_has ls 18 [(0, .ref b), (1, .ref h), (2, .int (nI m.nd)), (3, .int (nI m.ng)), (4, .int (nI m.nm)), (5, .int (nI m.nc)), (6, .int (nI m.nw)), (7, .int (nI k)), (11, .int (nI z)), (12, .int w1.toInt32), (13, .int w2.toInt32)])
    (K : ∀ (f1 : kH) (H1 : Heap) (locs1 : List Loc) (m1 : pSt) (ls1 : Array Slot), kX G B0 s f1 H1 locs1 → Inv G h f1 m1 → dInv m1 → lv_has ls1 18 (lwB b h m1 k) → W p l e R s mi args below meth c H1 locs1 (cells + 500) (slots + 4000) Q (F0 mi 1207 ls1 [])) : W p l e R s mi args below meth c H locs cells slots Q (F0 mi 1029 ls []) := by
  obtain ⟨b4, b16, bf, bd, bg, bm, bc2, bc6, bw⟩ := hI.bd
  have hI9 : ∀ {k : Nat}, k < 4 → (m.pr k).toInt.natAbs ≤ 1000000000 := fun hk => hI.pr9 hk
  refine lv_aload_n C.x C.b dL_law_1029 rfl (lv_at hl 1 rfl) ?_
  refine lv_iconst (v := (nI 4)) C.x C.b dL_law_1030 (by decide) ?_
  refine k_cI (As := [.int (nI 4)]) (rest := []) (c2 := cells + 8) (s2 := slots + 64) (v := (nI (mKind m.pr))) (m1 := m) C hX (iop_word hst hI (nI 4)) ((e_word m).2.2.2.2) hI.hd (gl_same inv_X8_word) rfl ⟨rfl, hdA_X8_word⟩ (by decide) rfl hl.1 rfl (Nat.le_of_ble_eq_true rfl) dL_law_1031 ⟨by omega, by omega⟩ ⟨by omega, by omega⟩ (by omega) (by omega) (fun f H locs hX hI => ?_)
  refine lv_iconst (v := (nI 3)) C.x C.b dL_law_1034 (by decide) ?_
  refine lv_icmp_gt (tgt := 1065) C.x C.b dL_law_1035 (by decide) (fun q9 => absurd q9 (nI_nlt (kind_3 _) (by decide))) (fun _ => ?_)
  refine lv_iload C.x C.b dL_law_1038 (lv_at hl 8 rfl) ?_
  refine lv_bipush (v := (nI 9)) C.x C.b dL_law_1040 (by decide) ?_
  refine lv_irem C.x C.b dL_law_1042 (by decide) ?_
  refine k_topi (y := (nI (z % 9))) (pk_rem (by omega) (by omega) (by omega)) ?_
  by_cases q9z : z % 9 = 0
  ·
    refine lv_if_ne (tgt := 1055) C.x C.b dL_law_1043 (by decide) (fun q9 => absurd (by rw [q9z]; rfl) q9) (fun _ => ?_)
    refine lv_aload_n C.x C.b dL_law_1046 rfl (lv_at hl 1 rfl) ?_
    refine k_cI (As := []) (rest := []) (c2 := cells + 16) (s2 := slots + 128) (v := ((m.pr 0 + m.pr 3).toInt32)) (m1 := (pMk m.cc m.fc m.nd m.ng m.nm m.nc m.nw m.fa m.dx m.dy m.dr m.fo m.ro m.mv mW0 m.ea m.eb)) C hX (iop_home hst hI) (ev_home rfl rfl) hI.hd (gl_same inv_X8_home) rfl ⟨rfl, hdA_X8_home⟩ (by decide) rfl hl.1 rfl (Nat.le_of_ble_eq_true rfl) dL_law_1047 ⟨by omega, by omega⟩ ⟨by omega, by omega⟩ (by omega) (by omega) (fun f H locs hX hI => ?_)
    refine lv_ldc (v := (-2000000000)) C.x C.b C.ow (C.ts _ lkC_7) dL_law_1050 ?_
    refine lv_icmp_lt (tgt := 1065) C.x C.b dL_law_1052 (by decide) (fun q9 => absurd q9 (sum_ge (hI9 (by decide)) (hI9 (by decide)))) (fun _ => ?_)
    refine lv_iload C.x C.b dL_law_1055 (lv_at hl 9 rfl) ?_
    refine lv_iload C.x C.b dL_law_1057 (lv_at hl 10 rfl) ?_
    refine lv_iadd C.x C.b dL_law_1059 ?_
    refine lv_ldc (v := (nI 2000000000)) C.x C.b C.ow (C.ts _ lkC_8) dL_law_1060 ?_
    refine lv_icmp_le (tgt := 1067) C.x C.b dL_law_1062 (by decide) (fun _ => ?_) (fun q9 => absurd (sum_le hw1 hw2) q9)
    refine lv_goto (tgt := 1207) C.x C.b dL_law_1067 (by decide) ?_
    refine W.widen (k := cells + 500) (n := slots + 4000) (by omega) (by omega) ?_
    exact K f H locs (pMk m.cc m.fc m.nd m.ng m.nm m.nc m.nw m.fa m.dx m.dy m.dr m.fo m.ro m.mv mW0 m.ea m.eb) ls hX hI (dInv_home hd) (lv_sub hl [0, 1, 2, 3, 4, 5, 6, 7] rfl)
  ·
    have h9 := Nat.mod_lt z (show 9 > 0 by decide)
    refine lv_if_ne (tgt := 1055) C.x C.b dL_law_1043 (by decide) (fun _ => ?_) (fun q9 => absurd q9 (nI_ne0 (Nat.pos_of_ne_zero q9z) (by omega)))
    refine lv_iload C.x C.b dL_law_1055 (lv_at hl 9 rfl) ?_
    refine lv_iload C.x C.b dL_law_1057 (lv_at hl 10 rfl) ?_
    refine lv_iadd C.x C.b dL_law_1059 ?_
    refine lv_ldc (v := (nI 2000000000)) C.x C.b C.ow (C.ts _ lkC_8) dL_law_1060 ?_
    refine lv_icmp_le (tgt := 1067) C.x C.b dL_law_1062 (by decide) (fun _ => ?_) (fun q9 => absurd (sum_le hw1 hw2) q9)
    refine lv_goto (tgt := 1207) C.x C.b dL_law_1067 (by decide) ?_
    refine W.widen (k := cells + 500) (n := slots + 4000) (by omega) (by omega) ?_
    exact K f H locs m ls hX hI hd (lv_sub hl [0, 1, 2, 3, 4, 5, 6, 7] rfl)
set_option maxHeartbeats 8000000 in
set_option maxRecDepth 100000 in
theorem law_w10a (hst : l.stackTraces = false) (C : kC G B0 p mi c cL_law 18 s args wsL_law RL) (hX : kX G B0 s f H locs) (hR : 400 ≤ R.frames ∧ 24000 ≤ R.locals) (hcl : cells + 2000 ≤ R.cells ∧ slots + 16000 ≤ R.slots) (hI : Inv G h f m) (hd : dInv m) (hx : x < 16777216) (hy : y < 16777216) (hz : z < 16777216) (h0 : 0 < m.nm) (hl : lv_has ls 18 [(0, .ref b), (1, .ref h), (2, .int (nI m.nd)), (3, .int (nI m.ng)), (4, .int (nI m.nm)), (5, .int (nI m.nc)), (6, .int (nI m.nw)), (7, .int (nI k)), (8, .int (nI x)), (9, .int (nI 10)), (10, .int (nI y)), (11, .int (nI z))])
    (K : ∀ (f1 : kH) (H1 : Heap) (locs1 : List Loc) (m1 : pSt) (ls1 : Array Slot), kX G B0 s f1 H1 locs1 → Inv G h f1 m1 → dInv m1 → lv_has ls1 18 (lwB b h m1 k) → W p l e R s mi args below meth c H1 locs1 (cells + 2000) (slots + 16000) Q (F0 mi 1207 ls1 [])) : W p l e R s mi args below meth c H locs cells slots Q (F0 mi 85 ls []) := by
  obtain ⟨b4, b16, bf, bd, bg, bm, bc2, bc6, bw⟩ := hI.bd
  obtain ⟨i, hi, ei⟩ : ∃ i, i < m.nm ∧ y % m.nm = i := ⟨_, Nat.mod_lt _ (h0), rfl⟩
  obtain ⟨t, ht, et⟩ : ∃ t, t < 2 ∧ z % 2 = t := ⟨_, Nat.mod_lt _ (by decide), rfl⟩
  have hz2 : nI t = nI 1 ∧ nI t = nI 1 ∨ ¬ nI t = nI 1 ∧ nI t = nI 0 := by
    rcases (show t = 0 ∨ t = 1 by omega) with rfl | rfl
    · exact .inr ⟨by decide, rfl⟩
    · exact .inl ⟨rfl, rfl⟩
  have hw0 := hI.pr9 (k := 0) (by decide)
  have hw3 := hI.pr9 (k := 3) (by decide)
  refine lv_iload C.x C.b dL_law_85 (lv_at hl 9 rfl) ?_
  refine lv_iconst (v := (nI 2)) C.x C.b dL_law_87 (by decide) ?_
  refine lv_icmp_ge (tgt := 138) C.x C.b dL_law_88 (by decide) (fun _ => ?_) (fun q9 => absurd (by decide) q9)
  refine lv_iload C.x C.b dL_law_138 (lv_at hl 9 rfl) ?_
  refine lv_iconst (v := (nI 4)) C.x C.b dL_law_140 (by decide) ?_
  refine lv_icmp_ge (tgt := 304) C.x C.b dL_law_141 (by decide) (fun _ => ?_) (fun q9 => absurd (by decide) q9)
  refine lv_iload C.x C.b dL_law_304 (lv_at hl 9 rfl) ?_
  refine lv_bipush (v := (nI 6)) C.x C.b dL_law_306 (by decide) ?_
  refine lv_icmp_ge (tgt := 493) C.x C.b dL_law_308 (by decide) (fun _ => ?_) (fun q9 => absurd (by decide) q9)
  refine lv_iload C.x C.b dL_law_493 (lv_at hl 9 rfl) ?_
  refine lv_bipush (v := (nI 6)) C.x C.b dL_law_495 (by decide) ?_
  refine lv_icmp_ne (tgt := 684) C.x C.b dL_law_497 (by decide) (fun _ => ?_) (fun q9 => absurd q9 (by decide))
  refine lv_iload C.x C.b dL_law_684 (lv_at hl 9 rfl) ?_
  refine lv_bipush (v := (nI 7)) C.x C.b dL_law_686 (by decide) ?_
  refine lv_icmp_ne (tgt := 763) C.x C.b dL_law_688 (by decide) (fun _ => ?_) (fun q9 => absurd q9 (by decide))
  refine lv_iload C.x C.b dL_law_763 (lv_at hl 9 rfl) ?_
  refine lv_bipush (v := (nI 9)) C.x C.b dL_law_765 (by decide) ?_
  refine lv_icmp_ge (tgt := 867) C.x C.b dL_law_767 (by decide) (fun _ => ?_) (fun q9 => absurd (by decide) q9)
  refine lv_iload C.x C.b dL_law_867 (lv_at hl 9 rfl) ?_
  refine lv_bipush (v := (nI 9)) C.x C.b dL_law_869 (by decide) ?_
  refine lv_icmp_ne (tgt := 945) C.x C.b dL_law_871 (by decide) (fun _ => ?_) (fun q9 => absurd q9 (by decide))
  refine lv_iload C.x C.b dL_law_945 (lv_at hl 9 rfl) ?_
  refine lv_bipush (v := (nI 10)) C.x C.b dL_law_947 (by decide) ?_
  refine lv_icmp_ne (tgt := 1070) C.x C.b dL_law_949 (by decide) (fun q9 => absurd (by decide) q9) (fun _ => ?_)
  refine lv_iload C.x C.b dL_law_952 (lv_at hl 4 rfl) ?_
  refine lv_if_le (tgt := 1070) C.x C.b dL_law_954 (by decide) (fun q9 => absurd q9 (nI_nle h0 (by omega))) (fun _ => ?_)
  refine lv_aload_n C.x C.b dL_law_957 rfl (lv_at hl 1 rfl) ?_
  refine lv_iconst (v := (nI 0)) C.x C.b dL_law_958 (by decide) ?_
  refine k_cI (As := [.int (nI 0)]) (rest := []) (c2 := cells + 8) (s2 := slots + 64) (v := ((m.pr 0).toInt32)) (m1 := m) C hX (iop_word hst hI (nI 0)) ((e_word m).1) hI.hd (gl_same inv_X8_word) rfl ⟨rfl, hdA_X8_word⟩ (by decide) rfl hl.1 rfl (Nat.le_of_ble_eq_true rfl) dL_law_959 ⟨by omega, by omega⟩ ⟨by omega, by omega⟩ (by omega) (by omega) (fun f H locs hX hI => ?_)
  refine lv_istore (lv' := [(12, .int ((m.pr 0).toInt32)), (0, .ref b), (1, .ref h), (2, .int (nI m.nd)), (3, .int (nI m.ng)), (4, .int (nI m.nm)), (5, .int (nI m.nc)), (6, .int (nI m.nw)), (7, .int (nI k)), (8, .int (nI x)), (9, .int (nI 10)), (10, .int (nI y)), (11, .int (nI z))]) C.x C.b dL_law_962 hl (by decide) rfl (fun ls hl => ?_)
  refine lv_aload_n C.x C.b dL_law_964 rfl (lv_at hl 2 rfl) ?_
  refine lv_iconst (v := (nI 3)) C.x C.b dL_law_965 (by decide) ?_
  refine k_cI (As := [.int (nI 3)]) (rest := []) (c2 := cells + 16) (s2 := slots + 128) (v := ((m.pr 3).toInt32)) (m1 := m) C hX (iop_word hst hI (nI 3)) ((e_word m).2.2.2.1) hI.hd (gl_same inv_X8_word) rfl ⟨rfl, hdA_X8_word⟩ (by decide) rfl hl.1 rfl (Nat.le_of_ble_eq_true rfl) dL_law_966 ⟨by omega, by omega⟩ ⟨by omega, by omega⟩ (by omega) (by omega) (fun f H locs hX hI => ?_)
  refine lv_istore (lv' := [(13, .int ((m.pr 3).toInt32)), (12, .int ((m.pr 0).toInt32)), (0, .ref b), (1, .ref h), (2, .int (nI m.nd)), (3, .int (nI m.ng)), (4, .int (nI m.nm)), (5, .int (nI m.nc)), (6, .int (nI m.nw)), (7, .int (nI k)), (8, .int (nI x)), (9, .int (nI 10)), (10, .int (nI y)), (11, .int (nI z))]) C.x C.b dL_law_969 hl (by decide) rfl (fun ls hl => ?_)
  refine lv_aload_n C.x C.b dL_law_971 rfl (lv_at hl 3 rfl) ?_
  refine lv_bipush (v := (nI 20)) C.x C.b dL_law_972 (by decide) ?_
  refine lv_iload C.x C.b dL_law_974 (lv_at hl 12 rfl) ?_
  refine lv_iload C.x C.b dL_law_976 (lv_at hl 6 rfl) ?_
  refine lv_irem C.x C.b dL_law_978 (nI_ne0 h0 (by omega)) ?_
  refine k_topi (y := (nI i)) ((pk_rem (by omega) (by omega) (by omega)).trans (congrArg nI ei)) ?_
  refine lv_iload C.x C.b dL_law_979 (lv_at hl 13 rfl) ?_
  refine lv_iconst (v := (nI 2)) C.x C.b dL_law_981 (by decide) ?_
  refine lv_irem C.x C.b dL_law_982 (by decide) ?_
  refine k_topi (y := (nI t)) ((pk_rem (by omega) (by omega) (by omega)).trans (congrArg nI et)) ?_
  refine lv_iconst (v := (nI 0)) C.x C.b dL_law_983 (by decide) ?_
  refine lv_iconst (v := (nI 0)) C.x C.b dL_law_984 (by decide) ?_
  by_cases q4 : pIn4 (pPrd m.pr m.mv i (nI t))
  ·
    refine k_actI (As := [.ref h, .int (nI 20), .int (nI i), .int (nI t), .int (nI 0), .int (nI 0)]) (rest := []) (c2 := cells + 24) (s2 := slots + 192) (v := ((pPrd m.pr m.mv i (nI t) 0 + pPrd m.pr m.mv i (nI t) 3).toInt32).toInt64) (m1 := (pMk m.cc m.fc m.nd m.ng m.nm m.nc m.nw m.fa m.dx m.dy m.dr m.fo m.ro m.mv (pPrd m.pr m.mv i (nI t)) m.ea m.eb)) C hX (act_20 hI.hd (nI i) (nI t) (nI 0) (nI 0) (z := (nI t)) hz2 (iop_append hst hI (nI i) (nI t))) (ev_append i (mIn_in hi (by omega)) (by omega) q4 rfl rfl) (rfl) (gl_same inv_L_act) rfl hl.1 rfl (Nat.le_of_ble_eq_true rfl) dL_law_985 ⟨by omega, by omega⟩ ⟨by omega, by omega⟩ (by omega) (by omega) (fun f H locs hX hI => ?_)
    refine lv_ldc2 (v := (-7000003)) C.x C.b C.ow (C.ts _ lkC_4) dL_law_988 ?_
    by_cases q7 : ((pPrd m.pr m.mv i (nI t) 0 + pPrd m.pr m.mv i (nI t) 3).toInt32).toInt64 = -7000003
    ·
      refine k_lcmp_eq (tgt := 1029) C.x C.b dL_law_991 dL_law_992 (by decide) (fun _ => ?_) (fun q9 => absurd (q7) q9)
      exact law_tW (x := x) (y := y) (z := z) (m := (pMk m.cc m.fc m.nd m.ng m.nm m.nc m.nw m.fa m.dx m.dy m.dr m.fo m.ro m.mv (pPrd m.pr m.mv i (nI t)) m.ea m.eb)) hst C hX hR ⟨by omega, by omega⟩ hI (dInv_app hd hi (nI t)) hx hy hz hw0 hw3 (lv_sub hl [2, 3, 4, 5, 6, 7, 8, 9, 13, 1, 0] rfl) (fun f1 H1 locs1 m1 ls1 a1 a2 a3 a4 => W.widen (k := cells + 2000) (n := slots + 16000) (by omega) (by omega) (K f1 H1 locs1 m1 ls1 a1 a2 a3 a4))
    ·
      have hdl := det_law (dInv_app hd hi (nI t)) (fun k hk => hI.pr9 hk)
      refine k_lcmp_eq (tgt := 1029) C.x C.b dL_law_991 dL_law_992 (by decide) (fun q9 => absurd q9 (q7)) (fun _ => ?_)
      refine lv_aload_n C.x C.b dL_law_995 rfl (lv_at hl 3 rfl) ?_
      refine lv_iconst (v := (nI 0)) C.x C.b dL_law_996 (by decide) ?_
      refine k_cI (As := [.int (nI 0)]) (rest := []) (c2 := cells + 32) (s2 := slots + 256) (v := ((pPrd m.pr m.mv i (nI t) 0).toInt32)) (m1 := (pMk m.cc m.fc m.nd m.ng m.nm m.nc m.nw m.fa m.dx m.dy m.dr m.fo m.ro m.mv (pPrd m.pr m.mv i (nI t)) m.ea m.eb)) C hX (iop_word hst hI (nI 0)) ((e_word (pMk m.cc m.fc m.nd m.ng m.nm m.nc m.nw m.fa m.dx m.dy m.dr m.fo m.ro m.mv (pPrd m.pr m.mv i (nI t)) m.ea m.eb)).1) hI.hd (gl_same inv_X8_word) rfl ⟨rfl, hdA_X8_word⟩ (by decide) rfl hl.1 rfl (Nat.le_of_ble_eq_true rfl) dL_law_997 ⟨by omega, by omega⟩ ⟨by omega, by omega⟩ (by omega) (by omega) (fun f H locs hX hI => ?_)
      refine lv_i2l (v := ((pPrd m.pr m.mv i (nI t) 0).toInt32).toInt64) C.x C.b dL_law_1000 rfl ?_
      refine lv_aload_n C.x C.b dL_law_1001 rfl (lv_at hl 3 rfl) ?_
      refine lv_iconst (v := (nI 3)) C.x C.b dL_law_1002 (by decide) ?_
      refine k_cI (As := [.int (nI 3)]) (rest := [.long (((pPrd m.pr m.mv i (nI t) 0).toInt32).toInt64)]) (c2 := cells + 40) (s2 := slots + 320) (v := ((pPrd m.pr m.mv i (nI t) 3).toInt32)) (m1 := (pMk m.cc m.fc m.nd m.ng m.nm m.nc m.nw m.fa m.dx m.dy m.dr m.fo m.ro m.mv (pPrd m.pr m.mv i (nI t)) m.ea m.eb)) C hX (iop_word hst hI (nI 3)) ((e_word (pMk m.cc m.fc m.nd m.ng m.nm m.nc m.nw m.fa m.dx m.dy m.dr m.fo m.ro m.mv (pPrd m.pr m.mv i (nI t)) m.ea m.eb)).2.2.2.1) hI.hd (gl_same inv_X8_word) rfl ⟨rfl, hdA_X8_word⟩ (by decide) rfl hl.1 rfl (Nat.le_of_ble_eq_true rfl) dL_law_1003 ⟨by omega, by omega⟩ ⟨by omega, by omega⟩ (by omega) (by omega) (fun f H locs hX hI => ?_)
      refine lv_i2l (v := ((pPrd m.pr m.mv i (nI t) 3).toInt32).toInt64) C.x C.b dL_law_1006 rfl ?_
      refine lv_lmul C.x C.b dL_law_1007 ?_
      refine lv_aload_n C.x C.b dL_law_1008 rfl (lv_at hl 3 rfl) ?_
      refine lv_iconst (v := (nI 1)) C.x C.b dL_law_1009 (by decide) ?_
      refine k_cI (As := [.int (nI 1)]) (rest := [.long ((((pPrd m.pr m.mv i (nI t) 0).toInt32).toInt64) * (((pPrd m.pr m.mv i (nI t) 3).toInt32).toInt64))]) (c2 := cells + 48) (s2 := slots + 384) (v := ((pPrd m.pr m.mv i (nI t) 1).toInt32)) (m1 := (pMk m.cc m.fc m.nd m.ng m.nm m.nc m.nw m.fa m.dx m.dy m.dr m.fo m.ro m.mv (pPrd m.pr m.mv i (nI t)) m.ea m.eb)) C hX (iop_word hst hI (nI 1)) ((e_word (pMk m.cc m.fc m.nd m.ng m.nm m.nc m.nw m.fa m.dx m.dy m.dr m.fo m.ro m.mv (pPrd m.pr m.mv i (nI t)) m.ea m.eb)).2.1) hI.hd (gl_same inv_X8_word) rfl ⟨rfl, hdA_X8_word⟩ (by decide) rfl hl.1 rfl (Nat.le_of_ble_eq_true rfl) dL_law_1010 ⟨by omega, by omega⟩ ⟨by omega, by omega⟩ (by omega) (by omega) (fun f H locs hX hI => ?_)
      refine lv_i2l (v := ((pPrd m.pr m.mv i (nI t) 1).toInt32).toInt64) C.x C.b dL_law_1013 rfl ?_
      refine lv_aload_n C.x C.b dL_law_1014 rfl (lv_at hl 3 rfl) ?_
      refine lv_iconst (v := (nI 2)) C.x C.b dL_law_1015 (by decide) ?_
      refine k_cI (As := [.int (nI 2)]) (rest := [.long (((pPrd m.pr m.mv i (nI t) 1).toInt32).toInt64), .long ((((pPrd m.pr m.mv i (nI t) 0).toInt32).toInt64) * (((pPrd m.pr m.mv i (nI t) 3).toInt32).toInt64))]) (c2 := cells + 56) (s2 := slots + 448) (v := ((pPrd m.pr m.mv i (nI t) 2).toInt32)) (m1 := (pMk m.cc m.fc m.nd m.ng m.nm m.nc m.nw m.fa m.dx m.dy m.dr m.fo m.ro m.mv (pPrd m.pr m.mv i (nI t)) m.ea m.eb)) C hX (iop_word hst hI (nI 2)) ((e_word (pMk m.cc m.fc m.nd m.ng m.nm m.nc m.nw m.fa m.dx m.dy m.dr m.fo m.ro m.mv (pPrd m.pr m.mv i (nI t)) m.ea m.eb)).2.2.1) hI.hd (gl_same inv_X8_word) rfl ⟨rfl, hdA_X8_word⟩ (by decide) rfl hl.1 rfl (Nat.le_of_ble_eq_true rfl) dL_law_1016 ⟨by omega, by omega⟩ ⟨by omega, by omega⟩ (by omega) (by omega) (fun f H locs hX hI => ?_)
      refine lv_i2l (v := ((pPrd m.pr m.mv i (nI t) 2).toInt32).toInt64) C.x C.b dL_law_1019 rfl ?_
      refine lv_lmul C.x C.b dL_law_1020 ?_
      refine lv_lsub C.x C.b dL_law_1021 ?_
      refine lv_lconst (v := 1) C.x C.b dL_law_1022 (by decide) ?_
      refine k_lcmp_eq (tgt := 1029) C.x C.b dL_law_1023 dL_law_1024 (by decide) (fun _ => ?_) (fun q9 => absurd (hdl) q9)
      exact law_tW (x := x) (y := y) (z := z) (m := (pMk m.cc m.fc m.nd m.ng m.nm m.nc m.nw m.fa m.dx m.dy m.dr m.fo m.ro m.mv (pPrd m.pr m.mv i (nI t)) m.ea m.eb)) hst C hX hR ⟨by omega, by omega⟩ hI (dInv_app hd hi (nI t)) hx hy hz hw0 hw3 (lv_sub hl [2, 3, 4, 5, 6, 7, 8, 9, 13, 1, 0] rfl) (fun f1 H1 locs1 m1 ls1 a1 a2 a3 a4 => W.widen (k := cells + 2000) (n := slots + 16000) (by omega) (by omega) (K f1 H1 locs1 m1 ls1 a1 a2 a3 a4))
  ·
    refine k_actI (As := [.ref h, .int (nI 20), .int (nI i), .int (nI t), .int (nI 0), .int (nI 0)]) (rest := []) (c2 := cells + 24) (s2 := slots + 192) (v := (-7000003)) (m1 := m) C hX (act_20 hI.hd (nI i) (nI t) (nI 0) (nI 0) (z := (nI t)) hz2 (iop_append hst hI (nI i) (nI t))) (e_append_s (mIn_in hi (by omega)) (by rw [nI_clamp (by omega)]; exact q4)) (rfl) (gl_same inv_L_act) rfl hl.1 rfl (Nat.le_of_ble_eq_true rfl) dL_law_985 ⟨by omega, by omega⟩ ⟨by omega, by omega⟩ (by omega) (by omega) (fun f H locs hX hI => ?_)
    refine lv_ldc2 (v := (-7000003)) C.x C.b C.ow (C.ts _ lkC_4) dL_law_988 ?_
    refine k_lcmp_eq (tgt := 1029) C.x C.b dL_law_991 dL_law_992 (by decide) (fun _ => ?_) (fun q9 => absurd (by decide) q9)
    exact law_tW (x := x) (y := y) (z := z) (m := m) hst C hX hR ⟨by omega, by omega⟩ hI hd hx hy hz hw0 hw3 (lv_sub hl [2, 3, 4, 5, 6, 7, 8, 9, 13, 1, 0] rfl) (fun f1 H1 locs1 m1 ls1 a1 a2 a3 a4 => W.widen (k := cells + 2000) (n := slots + 16000) (by omega) (by omega) (K f1 H1 locs1 m1 ls1 a1 a2 a3 a4))
end LW4
