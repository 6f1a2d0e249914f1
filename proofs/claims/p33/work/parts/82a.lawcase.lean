/-! the law's drawn calls: 82a.lawcase -/
abbrev lwB (b h : Nat) (m : pSt) (k : Nat) : List (Nat × Value) := [(0, .ref b), (1, .ref h), (2, .int (nI m.nd)), (3, .int (nI m.ng)), (4, .int (nI m.nm)), (5, .int (nI m.nc)), (6, .int (nI m.nw)), (7, .int (nI k))]
theorem lkC_5 : Cond.constantLong RL 251 (100) ∈ wsL_law := upL _ (List.mem_of_getElem? (i := 5) (by decide +kernel))
section LW0
variable {p : Program} {l : Launch} {e : Env} {R : Room} {s : State} {mi : MethodId} {args : Array Value} {below : List Frame} {meth : Method} {c : Code} {H : Heap} {locs : List Loc} {cells slots : Nat} {Q : State → Prop}
variable {ls : Array Slot} {G : kG} {B0 h b k x y z : Nat} {f : kH} {m : pSt}
set_option maxHeartbeats 8000000 in
set_option maxRecDepth 100000 in
theorem law_w0 (hst : l.stackTraces = false) (C : kC G B0 p mi c cL_law 18 s args wsL_law RL) (hX : kX G B0 s f H locs) (hR : 400 ≤ R.frames ∧ 24000 ≤ R.locals) (hcl : cells + 2000 ≤ R.cells ∧ slots + 16000 ≤ R.slots) (hI : Inv G h f m) (hd : dInv m) (hx : x < 16777216) (hy : y < 16777216) (hz : z < 16777216) (hl : lv_has ls 18 [(0, .ref b), (1, .ref h), (2, .int (nI m.nd)), (3, .int (nI m.ng)), (4, .int (nI m.nm)), (5, .int (nI m.nc)), (6, .int (nI m.nw)), (7, .int (nI k)), (8, .int (nI x)), (9, .int (nI 0)), (10, .int (nI y)), (11, .int (nI z))])
    (K : ∀ (f1 : kH) (H1 : Heap) (locs1 : List Loc) (m1 : pSt) (ls1 : Array Slot), kX G B0 s f1 H1 locs1 → Inv G h f1 m1 → dInv m1 → lv_has ls1 18 (lwB b h m1 k) → W p l e R s mi args below meth c H1 locs1 (cells + 2000) (slots + 16000) Q (F0 mi 1207 ls1 [])) : W p l e R s mi args below meth c H locs cells slots Q (F0 mi 85 ls []) := by
  obtain ⟨b4, b16, bf, bd, bg, bm, bc2, bc6, bw⟩ := hI.bd
  refine lv_iload C.x C.b dL_law_85 (lv_at hl 9 rfl) ?_
  refine lv_iconst (v := (nI 2)) C.x C.b dL_law_87 (by decide) ?_
  refine lv_icmp_ge (tgt := 138) C.x C.b dL_law_88 (by decide) (fun q9 => absurd q9 (by decide)) (fun _ => ?_)
  refine lv_aload_n C.x C.b dL_law_91 rfl (lv_at hl 1 rfl) ?_
  refine lv_iconst (v := (nI 0)) C.x C.b dL_law_92 (by decide) ?_
  refine k_cI (As := [.int (nI 0)]) (rest := []) (c2 := cells + 8) (s2 := slots + 64) (v := (nI m.cc)) (m1 := m) C hX (iop_net hst hI (nI 0)) (e_net0) hI.hd (gl_same inv_X8_net) rfl ⟨rfl, hdA_X8_net⟩ (by decide) rfl hl.1 rfl (Nat.le_of_ble_eq_true rfl) dL_law_93 ⟨by omega, by omega⟩ ⟨by omega, by omega⟩ (by omega) (by omega) (fun f H locs hX hI => ?_)
  refine lv_istore (lv' := [(12, .int (nI m.cc)), (0, .ref b), (1, .ref h), (2, .int (nI m.nd)), (3, .int (nI m.ng)), (4, .int (nI m.nm)), (5, .int (nI m.nc)), (6, .int (nI m.nw)), (7, .int (nI k)), (8, .int (nI x)), (9, .int (nI 0)), (10, .int (nI y)), (11, .int (nI z))]) C.x C.b dL_law_96 hl (by decide) rfl (fun ls hl => ?_)
  refine lv_aload_n C.x C.b dL_law_98 rfl (lv_at hl 2 rfl) ?_
  refine lv_iconst (v := (nI 0)) C.x C.b dL_law_99 (by decide) ?_
  refine lv_iload C.x C.b dL_law_100 (lv_at hl 11 rfl) ?_
  refine lv_aload_n C.x C.b dL_law_102 rfl (lv_at hl 2 rfl) ?_
  refine lv_iconst (v := (nI 2)) C.x C.b dL_law_103 (by decide) ?_
  refine k_cI (As := [.int (nI 2)]) (rest := [.int (nI y), .int (nI 0), .ref h]) (c2 := cells + 16) (s2 := slots + 128) (v := (nI m.fc)) (m1 := m) C hX (iop_net hst hI (nI 2)) (e_net2) hI.hd (gl_same inv_X8_net) rfl ⟨rfl, hdA_X8_net⟩ (by decide) rfl hl.1 rfl (Nat.le_of_ble_eq_true rfl) dL_law_104 ⟨by omega, by omega⟩ ⟨by omega, by omega⟩ (by omega) (by omega) (fun f H locs hX hI => ?_)
  refine lv_irem C.x C.b dL_law_107 (nI_ne0 (by omega) (by omega)) ?_
  refine k_topi (y := (nI (y % m.fc))) (pk_rem (by omega) (by omega) (by omega)) ?_
  refine lv_iconst (v := (nI 0)) C.x C.b dL_law_108 (by decide) ?_
  refine lv_iconst (v := (nI 0)) C.x C.b dL_law_109 (by decide) ?_
  refine lv_iconst (v := (nI 0)) C.x C.b dL_law_110 (by decide) ?_
  by_cases q16 : 16 ≤ m.cc
  ·
    refine k_actI (As := [.ref h, .int (nI 0), .int (nI (y % m.fc)), .int (nI 0), .int (nI 0), .int (nI 0)]) (rest := []) (c2 := cells + 24) (s2 := slots + 192) (v := (-7000003)) (m1 := m) C hX (act_0 hI.hd (nI (y % m.fc)) (nI 0) (nI 0) (nI 0) (iop_split hst hI (nI (y % m.fc)))) (e_split_s (mIn_in (Nat.mod_lt _ (by omega)) (Nat.lt_of_lt_of_le (Nat.mod_lt y (show 0 < m.fc by omega)) (by omega))) q16) (rfl) (gl_same inv_L_act) rfl hl.1 rfl (Nat.le_of_ble_eq_true rfl) dL_law_111 ⟨by omega, by omega⟩ ⟨by omega, by omega⟩ (by omega) (by omega) (fun f H locs hX hI => ?_)
    refine lv_iload C.x C.b dL_law_114 (lv_at hl 0 rfl) ?_
    refine lv_bipush (v := (nI 16)) C.x C.b dL_law_116 (by decide) ?_
    refine lv_icmp_ge (tgt := 126) C.x C.b dL_law_118 (by decide) (fun _ => ?_) (fun q9 => absurd (nI_le q16 (by omega)) q9)
    refine lv_ldc (v := (-7000003)) C.x C.b C.ow (C.ts _ lkC_3) dL_law_126 ?_
    refine lv_i2l (v := (-7000003).toInt64) C.x C.b dL_law_128 rfl ?_
    refine k_topl (y := (-7000003)) (by decide) ?_
    refine k_lcmp_eq (tgt := 135) C.x C.b dL_law_129 dL_law_130 (by decide) (fun _ => ?_) (fun q9 => absurd (by decide) q9)
    refine lv_goto (tgt := 1207) C.x C.b dL_law_135 (by decide) ?_
    refine W.widen (k := cells + 2000) (n := slots + 16000) (by omega) (by omega) ?_
    exact K f H locs m ls hX hI hd (lv_sub hl [1, 2, 3, 4, 5, 6, 7, 8] rfl)
  ·
    refine k_actI (As := [.ref h, .int (nI 0), .int (nI (y % m.fc)), .int (nI 0), .int (nI 0), .int (nI 0)]) (rest := []) (c2 := cells + 24) (s2 := slots + 192) (v := (nI m.cc).toInt64) (m1 := (pMk (m.cc + 1) (m.fc + 2) m.nd m.ng m.nm m.nc m.nw (pSpl m.fa m.cc m.fc (nI (y % m.fc)).toNatClampNeg) m.dx m.dy m.dr m.fo m.ro m.mv m.pr m.ea m.eb)) C hX (act_0 hI.hd (nI (y % m.fc)) (nI 0) (nI 0) (nI 0) (iop_split hst hI (nI (y % m.fc)))) (e_split_y (mIn_in (Nat.mod_lt _ (by omega)) (Nat.lt_of_lt_of_le (Nat.mod_lt y (show 0 < m.fc by omega)) (by omega))) q16) (rfl) (gl_same inv_L_act) rfl hl.1 rfl (Nat.le_of_ble_eq_true rfl) dL_law_111 ⟨by omega, by omega⟩ ⟨by omega, by omega⟩ (by omega) (by omega) (fun f H locs hX hI => ?_)
    refine lv_iload C.x C.b dL_law_114 (lv_at hl 0 rfl) ?_
    refine lv_bipush (v := (nI 16)) C.x C.b dL_law_116 (by decide) ?_
    refine lv_icmp_ge (tgt := 126) C.x C.b dL_law_118 (by decide) (fun q9 => absurd q9 (nI_ge (by omega) (by decide))) (fun _ => ?_)
    refine lv_iload C.x C.b dL_law_121 (lv_at hl 0 rfl) ?_
    refine lv_goto (tgt := 128) C.x C.b dL_law_123 (by decide) ?_
    refine lv_i2l (v := (nI m.cc).toInt64) C.x C.b dL_law_128 rfl ?_
    refine k_lcmp_eq (tgt := 135) C.x C.b dL_law_129 dL_law_130 (by decide) (fun _ => ?_) (fun q9 => absurd (rfl) q9)
    refine lv_goto (tgt := 1207) C.x C.b dL_law_135 (by decide) ?_
    refine W.widen (k := cells + 2000) (n := slots + 16000) (by omega) (by omega) ?_
    exact K f H locs (pMk (m.cc + 1) (m.fc + 2) m.nd m.ng m.nm m.nc m.nw (pSpl m.fa m.cc m.fc (nI (y % m.fc)).toNatClampNeg) m.dx m.dy m.dr m.fo m.ro m.mv m.pr m.ea m.eb) ls hX hI hd (lv_sub hl [1, 2, 3, 4, 5, 6, 7, 8] rfl)
set_option maxHeartbeats 8000000 in
set_option maxRecDepth 100000 in
theorem law_w1 (hst : l.stackTraces = false) (C : kC G B0 p mi c cL_law 18 s args wsL_law RL) (hX : kX G B0 s f H locs) (hR : 400 ≤ R.frames ∧ 24000 ≤ R.locals) (hcl : cells + 2000 ≤ R.cells ∧ slots + 16000 ≤ R.slots) (hI : Inv G h f m) (hd : dInv m) (hx : x < 16777216) (hy : y < 16777216) (hz : z < 16777216) (hl : lv_has ls 18 [(0, .ref b), (1, .ref h), (2, .int (nI m.nd)), (3, .int (nI m.ng)), (4, .int (nI m.nm)), (5, .int (nI m.nc)), (6, .int (nI m.nw)), (7, .int (nI k)), (8, .int (nI x)), (9, .int (nI 1)), (10, .int (nI y)), (11, .int (nI z))])
    (K : ∀ (f1 : kH) (H1 : Heap) (locs1 : List Loc) (m1 : pSt) (ls1 : Array Slot), kX G B0 s f1 H1 locs1 → Inv G h f1 m1 → dInv m1 → lv_has ls1 18 (lwB b h m1 k) → W p l e R s mi args below meth c H1 locs1 (cells + 2000) (slots + 16000) Q (F0 mi 1207 ls1 [])) : W p l e R s mi args below meth c H locs cells slots Q (F0 mi 85 ls []) := by
  obtain ⟨b4, b16, bf, bd, bg, bm, bc2, bc6, bw⟩ := hI.bd
  refine lv_iload C.x C.b dL_law_85 (lv_at hl 9 rfl) ?_
  refine lv_iconst (v := (nI 2)) C.x C.b dL_law_87 (by decide) ?_
  refine lv_icmp_ge (tgt := 138) C.x C.b dL_law_88 (by decide) (fun q9 => absurd q9 (by decide)) (fun _ => ?_)
  refine lv_aload_n C.x C.b dL_law_91 rfl (lv_at hl 1 rfl) ?_
  refine lv_iconst (v := (nI 0)) C.x C.b dL_law_92 (by decide) ?_
  refine k_cI (As := [.int (nI 0)]) (rest := []) (c2 := cells + 8) (s2 := slots + 64) (v := (nI m.cc)) (m1 := m) C hX (iop_net hst hI (nI 0)) (e_net0) hI.hd (gl_same inv_X8_net) rfl ⟨rfl, hdA_X8_net⟩ (by decide) rfl hl.1 rfl (Nat.le_of_ble_eq_true rfl) dL_law_93 ⟨by omega, by omega⟩ ⟨by omega, by omega⟩ (by omega) (by omega) (fun f H locs hX hI => ?_)
  refine lv_istore (lv' := [(12, .int (nI m.cc)), (0, .ref b), (1, .ref h), (2, .int (nI m.nd)), (3, .int (nI m.ng)), (4, .int (nI m.nm)), (5, .int (nI m.nc)), (6, .int (nI m.nw)), (7, .int (nI k)), (8, .int (nI x)), (9, .int (nI 1)), (10, .int (nI y)), (11, .int (nI z))]) C.x C.b dL_law_96 hl (by decide) rfl (fun ls hl => ?_)
  refine lv_aload_n C.x C.b dL_law_98 rfl (lv_at hl 2 rfl) ?_
  refine lv_iconst (v := (nI 0)) C.x C.b dL_law_99 (by decide) ?_
  refine lv_iload C.x C.b dL_law_100 (lv_at hl 11 rfl) ?_
  refine lv_aload_n C.x C.b dL_law_102 rfl (lv_at hl 2 rfl) ?_
  refine lv_iconst (v := (nI 2)) C.x C.b dL_law_103 (by decide) ?_
  refine k_cI (As := [.int (nI 2)]) (rest := [.int (nI y), .int (nI 0), .ref h]) (c2 := cells + 16) (s2 := slots + 128) (v := (nI m.fc)) (m1 := m) C hX (iop_net hst hI (nI 2)) (e_net2) hI.hd (gl_same inv_X8_net) rfl ⟨rfl, hdA_X8_net⟩ (by decide) rfl hl.1 rfl (Nat.le_of_ble_eq_true rfl) dL_law_104 ⟨by omega, by omega⟩ ⟨by omega, by omega⟩ (by omega) (by omega) (fun f H locs hX hI => ?_)
  refine lv_irem C.x C.b dL_law_107 (nI_ne0 (by omega) (by omega)) ?_
  refine k_topi (y := (nI (y % m.fc))) (pk_rem (by omega) (by omega) (by omega)) ?_
  refine lv_iconst (v := (nI 0)) C.x C.b dL_law_108 (by decide) ?_
  refine lv_iconst (v := (nI 0)) C.x C.b dL_law_109 (by decide) ?_
  refine lv_iconst (v := (nI 0)) C.x C.b dL_law_110 (by decide) ?_
  by_cases q16 : 16 ≤ m.cc
  ·
    refine k_actI (As := [.ref h, .int (nI 0), .int (nI (y % m.fc)), .int (nI 0), .int (nI 0), .int (nI 0)]) (rest := []) (c2 := cells + 24) (s2 := slots + 192) (v := (-7000003)) (m1 := m) C hX (act_0 hI.hd (nI (y % m.fc)) (nI 0) (nI 0) (nI 0) (iop_split hst hI (nI (y % m.fc)))) (e_split_s (mIn_in (Nat.mod_lt _ (by omega)) (Nat.lt_of_lt_of_le (Nat.mod_lt y (show 0 < m.fc by omega)) (by omega))) q16) (rfl) (gl_same inv_L_act) rfl hl.1 rfl (Nat.le_of_ble_eq_true rfl) dL_law_111 ⟨by omega, by omega⟩ ⟨by omega, by omega⟩ (by omega) (by omega) (fun f H locs hX hI => ?_)
    refine lv_iload C.x C.b dL_law_114 (lv_at hl 0 rfl) ?_
    refine lv_bipush (v := (nI 16)) C.x C.b dL_law_116 (by decide) ?_
    refine lv_icmp_ge (tgt := 126) C.x C.b dL_law_118 (by decide) (fun _ => ?_) (fun q9 => absurd (nI_le q16 (by omega)) q9)
    refine lv_ldc (v := (-7000003)) C.x C.b C.ow (C.ts _ lkC_3) dL_law_126 ?_
    refine lv_i2l (v := (-7000003).toInt64) C.x C.b dL_law_128 rfl ?_
    refine k_topl (y := (-7000003)) (by decide) ?_
    refine k_lcmp_eq (tgt := 135) C.x C.b dL_law_129 dL_law_130 (by decide) (fun _ => ?_) (fun q9 => absurd (by decide) q9)
    refine lv_goto (tgt := 1207) C.x C.b dL_law_135 (by decide) ?_
    refine W.widen (k := cells + 2000) (n := slots + 16000) (by omega) (by omega) ?_
    exact K f H locs m ls hX hI hd (lv_sub hl [1, 2, 3, 4, 5, 6, 7, 8] rfl)
  ·
    refine k_actI (As := [.ref h, .int (nI 0), .int (nI (y % m.fc)), .int (nI 0), .int (nI 0), .int (nI 0)]) (rest := []) (c2 := cells + 24) (s2 := slots + 192) (v := (nI m.cc).toInt64) (m1 := (pMk (m.cc + 1) (m.fc + 2) m.nd m.ng m.nm m.nc m.nw (pSpl m.fa m.cc m.fc (nI (y % m.fc)).toNatClampNeg) m.dx m.dy m.dr m.fo m.ro m.mv m.pr m.ea m.eb)) C hX (act_0 hI.hd (nI (y % m.fc)) (nI 0) (nI 0) (nI 0) (iop_split hst hI (nI (y % m.fc)))) (e_split_y (mIn_in (Nat.mod_lt _ (by omega)) (Nat.lt_of_lt_of_le (Nat.mod_lt y (show 0 < m.fc by omega)) (by omega))) q16) (rfl) (gl_same inv_L_act) rfl hl.1 rfl (Nat.le_of_ble_eq_true rfl) dL_law_111 ⟨by omega, by omega⟩ ⟨by omega, by omega⟩ (by omega) (by omega) (fun f H locs hX hI => ?_)
    refine lv_iload C.x C.b dL_law_114 (lv_at hl 0 rfl) ?_
    refine lv_bipush (v := (nI 16)) C.x C.b dL_law_116 (by decide) ?_
    refine lv_icmp_ge (tgt := 126) C.x C.b dL_law_118 (by decide) (fun q9 => absurd q9 (nI_ge (by omega) (by decide))) (fun _ => ?_)
    refine lv_iload C.x C.b dL_law_121 (lv_at hl 0 rfl) ?_
    refine lv_goto (tgt := 128) C.x C.b dL_law_123 (by decide) ?_
    refine lv_i2l (v := (nI m.cc).toInt64) C.x C.b dL_law_128 rfl ?_
    refine k_lcmp_eq (tgt := 135) C.x C.b dL_law_129 dL_law_130 (by decide) (fun _ => ?_) (fun q9 => absurd (rfl) q9)
    refine lv_goto (tgt := 1207) C.x C.b dL_law_135 (by decide) ?_
    refine W.widen (k := cells + 2000) (n := slots + 16000) (by omega) (by omega) ?_
    exact K f H locs (pMk (m.cc + 1) (m.fc + 2) m.nd m.ng m.nm m.nc m.nw (pSpl m.fa m.cc m.fc (nI (y % m.fc)).toNatClampNeg) m.dx m.dy m.dr m.fo m.ro m.mv m.pr m.ea m.eb) ls hX hI hd (lv_sub hl [1, 2, 3, 4, 5, 6, 7, 8] rfl)
set_option maxHeartbeats 8000000 in
set_option maxRecDepth 100000 in
theorem law_w2 (hst : l.stackTraces = false) (C : kC G B0 p mi c cL_law 18 s args wsL_law RL) (hX : kX G B0 s f H locs) (hR : 400 ≤ R.frames ∧ 24000 ≤ R.locals) (hcl : cells + 2000 ≤ R.cells ∧ slots + 16000 ≤ R.slots) (hI : Inv G h f m) (hd : dInv m) (hx : x < 16777216) (hy : y < 16777216) (hz : z < 16777216) (hl : lv_has ls 18 [(0, .ref b), (1, .ref h), (2, .int (nI m.nd)), (3, .int (nI m.ng)), (4, .int (nI m.nm)), (5, .int (nI m.nc)), (6, .int (nI m.nw)), (7, .int (nI k)), (8, .int (nI x)), (9, .int (nI 2)), (10, .int (nI y)), (11, .int (nI z))])
    (K : ∀ (f1 : kH) (H1 : Heap) (locs1 : List Loc) (m1 : pSt) (ls1 : Array Slot), kX G B0 s f1 H1 locs1 → Inv G h f1 m1 → dInv m1 → lv_has ls1 18 (lwB b h m1 k) → W p l e R s mi args below meth c H1 locs1 (cells + 2000) (slots + 16000) Q (F0 mi 1207 ls1 [])) : W p l e R s mi args below meth c H locs cells slots Q (F0 mi 85 ls []) := by
  obtain ⟨b4, b16, bf, bd, bg, bm, bc2, bc6, bw⟩ := hI.bd
  obtain ⟨a, ha, ea⟩ : ∃ a, a < m.cc ∧ y % m.cc = a := ⟨_, Nat.mod_lt _ (by omega), rfl⟩
  obtain ⟨th, hT⟩ := hI.nsa
  obtain ⟨d, hd2, w1, w2⟩ := hT.around ha (k := z % 3) (Nat.mod_lt _ (by decide))
  have h3 := Nat.mod_lt z (show 3 > 0 by decide)
  refine lv_iload C.x C.b dL_law_85 (lv_at hl 9 rfl) ?_
  refine lv_iconst (v := (nI 2)) C.x C.b dL_law_87 (by decide) ?_
  refine lv_icmp_ge (tgt := 138) C.x C.b dL_law_88 (by decide) (fun _ => ?_) (fun q9 => absurd (by decide) q9)
  refine lv_iload C.x C.b dL_law_138 (lv_at hl 9 rfl) ?_
  refine lv_iconst (v := (nI 4)) C.x C.b dL_law_140 (by decide) ?_
  refine lv_icmp_ge (tgt := 304) C.x C.b dL_law_141 (by decide) (fun q9 => absurd q9 (by decide)) (fun _ => ?_)
  refine lv_iload C.x C.b dL_law_144 (lv_at hl 10 rfl) ?_
  refine lv_aload_n C.x C.b dL_law_146 rfl (lv_at hl 1 rfl) ?_
  refine lv_iconst (v := (nI 0)) C.x C.b dL_law_147 (by decide) ?_
  refine k_cI (As := [.int (nI 0)]) (rest := [.int (nI y)]) (c2 := cells + 8) (s2 := slots + 64) (v := (nI m.cc)) (m1 := m) C hX (iop_net hst hI (nI 0)) (e_net0) hI.hd (gl_same inv_X8_net) rfl ⟨rfl, hdA_X8_net⟩ (by decide) rfl hl.1 rfl (Nat.le_of_ble_eq_true rfl) dL_law_148 ⟨by omega, by omega⟩ ⟨by omega, by omega⟩ (by omega) (by omega) (fun f H locs hX hI => ?_)
  refine lv_irem C.x C.b dL_law_151 (nI_ne0 (by omega) (by omega)) ?_
  refine k_topi (y := (nI a)) ((pk_rem (by omega) (by omega) (by omega)).trans (congrArg nI ea)) ?_
  refine lv_istore (lv' := [(12, .int (nI a)), (0, .ref b), (1, .ref h), (2, .int (nI m.nd)), (3, .int (nI m.ng)), (4, .int (nI m.nm)), (5, .int (nI m.nc)), (6, .int (nI m.nw)), (7, .int (nI k)), (8, .int (nI x)), (9, .int (nI 2)), (10, .int (nI y)), (11, .int (nI z))]) C.x C.b dL_law_152 hl (by decide) rfl (fun ls hl => ?_)
  refine lv_aload_n C.x C.b dL_law_154 rfl (lv_at hl 2 rfl) ?_
  refine lv_iload C.x C.b dL_law_155 (lv_at hl 0 rfl) ?_
  refine lv_iload C.x C.b dL_law_157 (lv_at hl 12 rfl) ?_
  refine lv_iconst (v := (nI 3)) C.x C.b dL_law_159 (by decide) ?_
  refine lv_irem C.x C.b dL_law_160 (by decide) ?_
  refine k_topi (y := (nI (z % 3))) (pk_rem (by omega) (by omega) (by omega)) ?_
  refine k_cI (As := [.int (nI a), .int (nI (z % 3))]) (rest := []) (c2 := cells + 16) (s2 := slots + 128) (v := (nI d)) (m1 := m) C hX (iop_around hst hI (nI a) (nI (z % 3))) (ev_around_y ⟨mIn_in ha (by omega), nI_nn (by omega)⟩ (by rw [nI_clamp (by omega)]; exact w1) (by rw [nI_clamp (by omega)]; exact w2)) hI.hd (gl_same inv_X8_around) rfl ⟨rfl, hdA_X8_around⟩ (by decide) rfl hl.1 rfl (Nat.le_of_ble_eq_true rfl) dL_law_161 ⟨by omega, by omega⟩ ⟨by omega, by omega⟩ (by omega) (by omega) (fun f H locs hX hI => ?_)
  refine lv_istore (lv' := [(13, .int (nI d)), (12, .int (nI a)), (0, .ref b), (1, .ref h), (2, .int (nI m.nd)), (3, .int (nI m.ng)), (4, .int (nI m.nm)), (5, .int (nI m.nc)), (6, .int (nI m.nw)), (7, .int (nI k)), (8, .int (nI x)), (9, .int (nI 2)), (10, .int (nI y)), (11, .int (nI z))]) C.x C.b dL_law_164 hl (by decide) rfl (fun ls hl => ?_)
  refine lv_aload_n C.x C.b dL_law_166 rfl (lv_at hl 3 rfl) ?_
  refine lv_iconst (v := (nI 3)) C.x C.b dL_law_167 (by decide) ?_
  refine k_cI (As := [.int (nI 3)]) (rest := []) (c2 := cells + 24) (s2 := slots + 192) (v := (nI (mNet m.fa m.fc m.cc 3))) (m1 := m) C hX (iop_net hst hI (nI 3)) (e_net3) hI.hd (gl_same inv_X8_net) rfl ⟨rfl, hdA_X8_net⟩ (by decide) rfl hl.1 rfl (Nat.le_of_ble_eq_true rfl) dL_law_168 ⟨by omega, by omega⟩ ⟨by omega, by omega⟩ (by omega) (by omega) (fun f H locs hX hI => ?_)
  refine lv_istore (lv' := [(14, .int (nI (mNet m.fa m.fc m.cc 3))), (13, .int (nI d)), (12, .int (nI a)), (0, .ref b), (1, .ref h), (2, .int (nI m.nd)), (3, .int (nI m.ng)), (4, .int (nI m.nm)), (5, .int (nI m.nc)), (6, .int (nI m.nw)), (7, .int (nI k)), (8, .int (nI x)), (9, .int (nI 2)), (10, .int (nI y)), (11, .int (nI z))]) C.x C.b dL_law_171 hl (by decide) rfl (fun ls hl => ?_)
  refine lv_aload_n C.x C.b dL_law_173 rfl (lv_at hl 4 rfl) ?_
  refine lv_iconst (v := (nI 1)) C.x C.b dL_law_174 (by decide) ?_
  refine lv_iload C.x C.b dL_law_175 (lv_at hl 2 rfl) ?_
  refine lv_iload C.x C.b dL_law_177 (lv_at hl 1 rfl) ?_
  refine lv_iconst (v := (nI 0)) C.x C.b dL_law_179 (by decide) ?_
  refine lv_iconst (v := (nI 0)) C.x C.b dL_law_180 (by decide) ?_
  by_cases qc : mCanFlip m.fa m.fc (nI a) (nI d)
  ·
    obtain ⟨u, v, A1, A2, A3, hu, hv, huv, hab, e1, e2, e3, e4⟩ := flip_all hT ha hd2 qc
    obtain ⟨p1, p2, p3, p4⟩ := pair_nums u hu v hv huv
    refine k_actI (As := [.ref h, .int (nI 1), .int (nI a), .int (nI d), .int (nI 0), .int (nI 0)]) (rest := []) (c2 := cells + 32) (s2 := slots + 256) (v := (nI (pPair u v)).toInt64) (m1 := (pMk m.cc m.fc m.nd m.ng m.nm m.nc m.nw A1 m.dx m.dy m.dr m.fo m.ro m.mv m.pr m.ea m.eb)) C hX (act_1 hI.hd (nI a) (nI d) (nI 0) (nI 0) (iop_flip hst hI (nI a) (nI d))) (e1) (rfl) (gl_same inv_L_act) rfl hl.1 rfl (Nat.le_of_ble_eq_true rfl) dL_law_181 ⟨by omega, by omega⟩ ⟨by omega, by omega⟩ (by omega) (by omega) (fun f H locs hX hI => ?_)
    refine lv_lstore (lv' := [(15, .long ((nI (pPair u v)).toInt64)), (14, .int (nI (mNet m.fa m.fc m.cc 3))), (13, .int (nI d)), (12, .int (nI a)), (0, .ref b), (1, .ref h), (2, .int (nI m.nd)), (3, .int (nI m.ng)), (4, .int (nI m.nm)), (5, .int (nI m.nc)), (6, .int (nI m.nw)), (7, .int (nI k)), (8, .int (nI x)), (9, .int (nI 2)), (10, .int (nI y)), (11, .int (nI z))]) C.x C.b dL_law_184 hl (by decide) rfl (fun ls hl => ?_)
    refine lv_lload C.x C.b dL_law_186 (lv_at hl 0 rfl) ?_
    refine lv_ldc2 (v := (-7000003)) C.x C.b C.ow (C.ts _ lkC_4) dL_law_188 ?_
    refine k_lcmp_eq (tgt := 273) C.x C.b dL_law_191 dL_law_192 (by decide) (fun q9 => absurd q9 (p4)) (fun _ => ?_)
    refine lv_lload C.x C.b dL_law_195 (lv_at hl 0 rfl) ?_
    refine lv_ldc2 (v := 100) C.x C.b C.ow (C.ts _ lkC_5) dL_law_197 ?_
    refine lv_ldiv C.x C.b dL_law_200 (by decide) ?_
    refine lv_lload C.x C.b dL_law_201 (lv_at hl 0 rfl) ?_
    refine lv_ldc2 (v := 100) C.x C.b C.ow (C.ts _ lkC_5) dL_law_203 ?_
    refine lv_lrem C.x C.b dL_law_206 (by decide) ?_
    refine k_lcmp_ge (tgt := 271) C.x C.b dL_law_207 dL_law_208 (by decide) (fun q9 => absurd (p1) q9) (fun _ => ?_)
    refine lv_aload_n C.x C.b dL_law_211 rfl (lv_at hl 5 rfl) ?_
    refine lv_iconst (v := (nI 1)) C.x C.b dL_law_212 (by decide) ?_
    refine lv_lload C.x C.b dL_law_213 (lv_at hl 0 rfl) ?_
    refine lv_l2i (v := ((nI (pPair u v)).toInt64).toInt32) C.x C.b dL_law_215 rfl ?_
    refine lv_bipush (v := (nI 100)) C.x C.b dL_law_216 (by decide) ?_
    refine lv_idiv C.x C.b dL_law_218 (by decide) ?_
    refine k_topi (y := (nI (if u < v then u else v))) (p2) ?_
    refine lv_lload C.x C.b dL_law_219 (lv_at hl 0 rfl) ?_
    refine lv_l2i (v := ((nI (pPair u v)).toInt64).toInt32) C.x C.b dL_law_221 rfl ?_
    refine lv_bipush (v := (nI 100)) C.x C.b dL_law_222 (by decide) ?_
    refine lv_irem C.x C.b dL_law_224 (by decide) ?_
    refine k_topi (y := (nI (if u < v then v else u))) (p3) ?_
    refine lv_iconst (v := (nI 0)) C.x C.b dL_law_225 (by decide) ?_
    refine lv_iconst (v := (nI 0)) C.x C.b dL_law_226 (by decide) ?_
    refine k_actI (As := [.ref h, .int (nI 1), .int (nI (if u < v then u else v)), .int (nI (if u < v then v else u)), .int (nI 0), .int (nI 0)]) (rest := []) (c2 := cells + 40) (s2 := slots + 320) (v := (nI (pPair a d)).toInt64) (m1 := (pMk m.cc m.fc m.nd m.ng m.nm m.nc m.nw A2 m.dx m.dy m.dr m.fo m.ro m.mv m.pr m.ea m.eb)) C hX (act_1 hI.hd (nI (if u < v then u else v)) (nI (if u < v then v else u)) (nI 0) (nI 0) (iop_flip hst hI (nI (if u < v then u else v)) (nI (if u < v then v else u)))) (e2) (rfl) (gl_same inv_L_act) rfl hl.1 rfl (Nat.le_of_ble_eq_true rfl) dL_law_227 ⟨by omega, by omega⟩ ⟨by omega, by omega⟩ (by omega) (by omega) (fun f H locs hX hI => ?_)
    refine lv_iload C.x C.b dL_law_230 (lv_at hl 3 rfl) ?_
    refine lv_iload C.x C.b dL_law_232 (lv_at hl 2 rfl) ?_
    by_cases qlt : a < d
    ·
      refine lv_icmp_ge (tgt := 248) C.x C.b dL_law_234 (by decide) (fun q9 => absurd q9 (nI_ge qlt (by omega))) (fun _ => ?_)
      refine lv_bipush (v := (nI 100)) C.x C.b dL_law_237 (by decide) ?_
      refine lv_iload C.x C.b dL_law_239 (lv_at hl 3 rfl) ?_
      refine lv_imul C.x C.b dL_law_241 ?_
      refine k_topi (y := (nI (100 * a))) (pk_mul _ _) ?_
      refine lv_iload C.x C.b dL_law_242 (lv_at hl 2 rfl) ?_
      refine lv_iadd C.x C.b dL_law_244 ?_
      refine k_topi (y := (nI (100 * a + d))) (nI_add _ _) ?_
      refine lv_goto (tgt := 256) C.x C.b dL_law_245 (by decide) ?_
      refine lv_i2l (v := (nI (100 * a + d)).toInt64) C.x C.b dL_law_256 rfl ?_
      refine k_lcmp_ne (tgt := 271) C.x C.b dL_law_257 dL_law_258 (by decide) (fun q9 => absurd (congrArg (fun n9 => (nI n9).toInt64) (pPair_l qlt)) q9) (fun _ => ?_)
      refine lv_aload_n C.x C.b dL_law_261 rfl (lv_at hl 5 rfl) ?_
      refine lv_iconst (v := (nI 3)) C.x C.b dL_law_262 (by decide) ?_
      refine k_cI (As := [.int (nI 3)]) (rest := []) (c2 := cells + 48) (s2 := slots + 384) (v := (nI (mNet m.fa m.fc m.cc 3))) (m1 := (pMk m.cc m.fc m.nd m.ng m.nm m.nc m.nw A2 m.dx m.dy m.dr m.fo m.ro m.mv m.pr m.ea m.eb)) C hX (iop_net hst hI (nI 3)) (ev_net (m := (pMk m.cc m.fc m.nd m.ng m.nm m.nc m.nw A2 m.dx m.dy m.dr m.fo m.ro m.mv m.pr m.ea m.eb)) (by decide) (congrArg nI e3)) hI.hd (gl_same inv_X8_net) rfl ⟨rfl, hdA_X8_net⟩ (by decide) rfl hl.1 rfl (Nat.le_of_ble_eq_true rfl) dL_law_263 ⟨by omega, by omega⟩ ⟨by omega, by omega⟩ (by omega) (by omega) (fun f H locs hX hI => ?_)
      refine lv_iload C.x C.b dL_law_266 (lv_at hl 1 rfl) ?_
      refine lv_icmp_eq (tgt := 273) C.x C.b dL_law_268 (by decide) (fun _ => ?_) (fun q9 => absurd (rfl) q9)
      refine lv_lload C.x C.b dL_law_273 (lv_at hl 0 rfl) ?_
      refine lv_ldc2 (v := (-7000003)) C.x C.b C.ow (C.ts _ lkC_4) dL_law_275 ?_
      refine k_lcmp_eq (tgt := 301) C.x C.b dL_law_278 dL_law_279 (by decide) (fun q9 => absurd q9 (p4)) (fun _ => ?_)
      refine lv_aload_n C.x C.b dL_law_282 rfl (lv_at hl 5 rfl) ?_
      refine lv_iconst (v := (nI 1)) C.x C.b dL_law_283 (by decide) ?_
      refine lv_iload C.x C.b dL_law_284 (lv_at hl 2 rfl) ?_
      refine lv_iload C.x C.b dL_law_286 (lv_at hl 3 rfl) ?_
      refine lv_iconst (v := (nI 0)) C.x C.b dL_law_288 (by decide) ?_
      refine lv_iconst (v := (nI 0)) C.x C.b dL_law_289 (by decide) ?_
      refine k_actI (As := [.ref h, .int (nI 1), .int (nI d), .int (nI a), .int (nI 0), .int (nI 0)]) (rest := []) (c2 := cells + 56) (s2 := slots + 448) (v := (nI (pPair u v)).toInt64) (m1 := (pMk m.cc m.fc m.nd m.ng m.nm m.nc m.nw A3 m.dx m.dy m.dr m.fo m.ro m.mv m.pr m.ea m.eb)) C hX (act_1 hI.hd (nI d) (nI a) (nI 0) (nI 0) (iop_flip hst hI (nI d) (nI a))) (e4) (rfl) (gl_same inv_L_act) rfl hl.1 rfl (Nat.le_of_ble_eq_true rfl) dL_law_290 ⟨by omega, by omega⟩ ⟨by omega, by omega⟩ (by omega) (by omega) (fun f H locs hX hI => ?_)
      refine lv_lload C.x C.b dL_law_293 (lv_at hl 0 rfl) ?_
      refine k_lcmp_eq (tgt := 301) C.x C.b dL_law_295 dL_law_296 (by decide) (fun _ => ?_) (fun q9 => absurd (rfl) q9)
      refine lv_goto (tgt := 1207) C.x C.b dL_law_301 (by decide) ?_
      refine W.widen (k := cells + 2000) (n := slots + 16000) (by omega) (by omega) ?_
      exact K f H locs (pMk m.cc m.fc m.nd m.ng m.nm m.nc m.nw A3 m.dx m.dy m.dr m.fo m.ro m.mv m.pr m.ea m.eb) ls hX hI hd (lv_sub hl [4, 5, 6, 7, 8, 9, 10, 11] rfl)
    ·
      refine lv_icmp_ge (tgt := 248) C.x C.b dL_law_234 (by decide) (fun _ => ?_) (fun q9 => absurd (nI_le (by omega) (by omega)) q9)
      refine lv_bipush (v := (nI 100)) C.x C.b dL_law_248 (by decide) ?_
      refine lv_iload C.x C.b dL_law_250 (lv_at hl 2 rfl) ?_
      refine lv_imul C.x C.b dL_law_252 ?_
      refine k_topi (y := (nI (100 * d))) (pk_mul _ _) ?_
      refine lv_iload C.x C.b dL_law_253 (lv_at hl 3 rfl) ?_
      refine lv_iadd C.x C.b dL_law_255 ?_
      refine k_topi (y := (nI (100 * d + a))) (nI_add _ _) ?_
      refine lv_i2l (v := (nI (100 * d + a)).toInt64) C.x C.b dL_law_256 rfl ?_
      refine k_lcmp_ne (tgt := 271) C.x C.b dL_law_257 dL_law_258 (by decide) (fun q9 => absurd (congrArg (fun n9 => (nI n9).toInt64) (pPair_g qlt)) q9) (fun _ => ?_)
      refine lv_aload_n C.x C.b dL_law_261 rfl (lv_at hl 5 rfl) ?_
      refine lv_iconst (v := (nI 3)) C.x C.b dL_law_262 (by decide) ?_
      refine k_cI (As := [.int (nI 3)]) (rest := []) (c2 := cells + 48) (s2 := slots + 384) (v := (nI (mNet m.fa m.fc m.cc 3))) (m1 := (pMk m.cc m.fc m.nd m.ng m.nm m.nc m.nw A2 m.dx m.dy m.dr m.fo m.ro m.mv m.pr m.ea m.eb)) C hX (iop_net hst hI (nI 3)) (ev_net (m := (pMk m.cc m.fc m.nd m.ng m.nm m.nc m.nw A2 m.dx m.dy m.dr m.fo m.ro m.mv m.pr m.ea m.eb)) (by decide) (congrArg nI e3)) hI.hd (gl_same inv_X8_net) rfl ⟨rfl, hdA_X8_net⟩ (by decide) rfl hl.1 rfl (Nat.le_of_ble_eq_true rfl) dL_law_263 ⟨by omega, by omega⟩ ⟨by omega, by omega⟩ (by omega) (by omega) (fun f H locs hX hI => ?_)
      refine lv_iload C.x C.b dL_law_266 (lv_at hl 1 rfl) ?_
      refine lv_icmp_eq (tgt := 273) C.x C.b dL_law_268 (by decide) (fun _ => ?_) (fun q9 => absurd (rfl) q9)
      refine lv_lload C.x C.b dL_law_273 (lv_at hl 0 rfl) ?_
      refine lv_ldc2 (v := (-7000003)) C.x C.b C.ow (C.ts _ lkC_4) dL_law_275 ?_
      refine k_lcmp_eq (tgt := 301) C.x C.b dL_law_278 dL_law_279 (by decide) (fun q9 => absurd q9 (p4)) (fun _ => ?_)
      refine lv_aload_n C.x C.b dL_law_282 rfl (lv_at hl 5 rfl) ?_
      refine lv_iconst (v := (nI 1)) C.x C.b dL_law_283 (by decide) ?_
      refine lv_iload C.x C.b dL_law_284 (lv_at hl 2 rfl) ?_
      refine lv_iload C.x C.b dL_law_286 (lv_at hl 3 rfl) ?_
      refine lv_iconst (v := (nI 0)) C.x C.b dL_law_288 (by decide) ?_
      refine lv_iconst (v := (nI 0)) C.x C.b dL_law_289 (by decide) ?_
      refine k_actI (As := [.ref h, .int (nI 1), .int (nI d), .int (nI a), .int (nI 0), .int (nI 0)]) (rest := []) (c2 := cells + 56) (s2 := slots + 448) (v := (nI (pPair u v)).toInt64) (m1 := (pMk m.cc m.fc m.nd m.ng m.nm m.nc m.nw A3 m.dx m.dy m.dr m.fo m.ro m.mv m.pr m.ea m.eb)) C hX (act_1 hI.hd (nI d) (nI a) (nI 0) (nI 0) (iop_flip hst hI (nI d) (nI a))) (e4) (rfl) (gl_same inv_L_act) rfl hl.1 rfl (Nat.le_of_ble_eq_true rfl) dL_law_290 ⟨by omega, by omega⟩ ⟨by omega, by omega⟩ (by omega) (by omega) (fun f H locs hX hI => ?_)
      refine lv_lload C.x C.b dL_law_293 (lv_at hl 0 rfl) ?_
      refine k_lcmp_eq (tgt := 301) C.x C.b dL_law_295 dL_law_296 (by decide) (fun _ => ?_) (fun q9 => absurd (rfl) q9)
      refine lv_goto (tgt := 1207) C.x C.b dL_law_301 (by decide) ?_
      refine W.widen (k := cells + 2000) (n := slots + 16000) (by omega) (by omega) ?_
      exact K f H locs (pMk m.cc m.fc m.nd m.ng m.nm m.nc m.nw A3 m.dx m.dy m.dr m.fo m.ro m.mv m.pr m.ea m.eb) ls hX hI hd (lv_sub hl [4, 5, 6, 7, 8, 9, 10, 11] rfl)
  ·
    refine k_actI (As := [.ref h, .int (nI 1), .int (nI a), .int (nI d), .int (nI 0), .int (nI 0)]) (rest := []) (c2 := cells + 32) (s2 := slots + 256) (v := (-7000003)) (m1 := m) C hX (act_1 hI.hd (nI a) (nI d) (nI 0) (nI 0) (iop_flip hst hI (nI a) (nI d))) (e_flip_s ⟨mIn_in ha (by omega), mIn_in hd2 (by omega)⟩ qc) (rfl) (gl_same inv_L_act) rfl hl.1 rfl (Nat.le_of_ble_eq_true rfl) dL_law_181 ⟨by omega, by omega⟩ ⟨by omega, by omega⟩ (by omega) (by omega) (fun f H locs hX hI => ?_)
    refine lv_lstore (lv' := [(15, .long (-7000003)), (14, .int (nI (mNet m.fa m.fc m.cc 3))), (13, .int (nI d)), (12, .int (nI a)), (0, .ref b), (1, .ref h), (2, .int (nI m.nd)), (3, .int (nI m.ng)), (4, .int (nI m.nm)), (5, .int (nI m.nc)), (6, .int (nI m.nw)), (7, .int (nI k)), (8, .int (nI x)), (9, .int (nI 2)), (10, .int (nI y)), (11, .int (nI z))]) C.x C.b dL_law_184 hl (by decide) rfl (fun ls hl => ?_)
    refine lv_lload C.x C.b dL_law_186 (lv_at hl 0 rfl) ?_
    refine lv_ldc2 (v := (-7000003)) C.x C.b C.ow (C.ts _ lkC_4) dL_law_188 ?_
    refine k_lcmp_eq (tgt := 273) C.x C.b dL_law_191 dL_law_192 (by decide) (fun _ => ?_) (fun q9 => absurd (by decide) q9)
    refine lv_lload C.x C.b dL_law_273 (lv_at hl 0 rfl) ?_
    refine lv_ldc2 (v := (-7000003)) C.x C.b C.ow (C.ts _ lkC_4) dL_law_275 ?_
    refine k_lcmp_eq (tgt := 301) C.x C.b dL_law_278 dL_law_279 (by decide) (fun _ => ?_) (fun q9 => absurd (by decide) q9)
    refine lv_goto (tgt := 1207) C.x C.b dL_law_301 (by decide) ?_
    refine W.widen (k := cells + 2000) (n := slots + 16000) (by omega) (by omega) ?_
    exact K f H locs m ls hX hI hd (lv_sub hl [4, 5, 6, 7, 8, 9, 10, 11] rfl)
set_option maxHeartbeats 8000000 in
set_option maxRecDepth 100000 in
theorem law_w3 (hst : l.stackTraces = false) (C : kC G B0 p mi c cL_law 18 s args wsL_law RL) (hX : kX G B0 s f H locs) (hR : 400 ≤ R.frames ∧ 24000 ≤ R.locals) (hcl : cells + 2000 ≤ R.cells ∧ slots + 16000 ≤ R.slots) (hI : Inv G h f m) (hd : dInv m) (hx : x < 16777216) (hy : y < 16777216) (hz : z < 16777216) (hl : lv_has ls 18 [(0, .ref b), (1, .ref h), (2, .int (nI m.nd)), (3, .int (nI m.ng)), (4, .int (nI m.nm)), (5, .int (nI m.nc)), (6, .int (nI m.nw)), (7, .int (nI k)), (8, .int (nI x)), (9, .int (nI 3)), (10, .int (nI y)), (11, .int (nI z))])
    (K : ∀ (f1 : kH) (H1 : Heap) (locs1 : List Loc) (m1 : pSt) (ls1 : Array Slot), kX G B0 s f1 H1 locs1 → Inv G h f1 m1 → dInv m1 → lv_has ls1 18 (lwB b h m1 k) → W p l e R s mi args below meth c H1 locs1 (cells + 2000) (slots + 16000) Q (F0 mi 1207 ls1 [])) : W p l e R s mi args below meth c H locs cells slots Q (F0 mi 85 ls []) := by
  obtain ⟨b4, b16, bf, bd, bg, bm, bc2, bc6, bw⟩ := hI.bd
  obtain ⟨a, ha, ea⟩ : ∃ a, a < m.cc ∧ y % m.cc = a := ⟨_, Nat.mod_lt _ (by omega), rfl⟩
  obtain ⟨th, hT⟩ := hI.nsa
  obtain ⟨d, hd2, w1, w2⟩ := hT.around ha (k := z % 3) (Nat.mod_lt _ (by decide))
  have h3 := Nat.mod_lt z (show 3 > 0 by decide)
  refine lv_iload C.x C.b dL_law_85 (lv_at hl 9 rfl) ?_
  refine lv_iconst (v := (nI 2)) C.x C.b dL_law_87 (by decide) ?_
  refine lv_icmp_ge (tgt := 138) C.x C.b dL_law_88 (by decide) (fun _ => ?_) (fun q9 => absurd (by decide) q9)
  refine lv_iload C.x C.b dL_law_138 (lv_at hl 9 rfl) ?_
  refine lv_iconst (v := (nI 4)) C.x C.b dL_law_140 (by decide) ?_
  refine lv_icmp_ge (tgt := 304) C.x C.b dL_law_141 (by decide) (fun q9 => absurd q9 (by decide)) (fun _ => ?_)
  refine lv_iload C.x C.b dL_law_144 (lv_at hl 10 rfl) ?_
  refine lv_aload_n C.x C.b dL_law_146 rfl (lv_at hl 1 rfl) ?_
  refine lv_iconst (v := (nI 0)) C.x C.b dL_law_147 (by decide) ?_
  refine k_cI (As := [.int (nI 0)]) (rest := [.int (nI y)]) (c2 := cells + 8) (s2 := slots + 64) (v := (nI m.cc)) (m1 := m) C hX (iop_net hst hI (nI 0)) (e_net0) hI.hd (gl_same inv_X8_net) rfl ⟨rfl, hdA_X8_net⟩ (by decide) rfl hl.1 rfl (Nat.le_of_ble_eq_true rfl) dL_law_148 ⟨by omega, by omega⟩ ⟨by omega, by omega⟩ (by omega) (by omega) (fun f H locs hX hI => ?_)
  refine lv_irem C.x C.b dL_law_151 (nI_ne0 (by omega) (by omega)) ?_
  refine k_topi (y := (nI a)) ((pk_rem (by omega) (by omega) (by omega)).trans (congrArg nI ea)) ?_
  refine lv_istore (lv' := [(12, .int (nI a)), (0, .ref b), (1, .ref h), (2, .int (nI m.nd)), (3, .int (nI m.ng)), (4, .int (nI m.nm)), (5, .int (nI m.nc)), (6, .int (nI m.nw)), (7, .int (nI k)), (8, .int (nI x)), (9, .int (nI 3)), (10, .int (nI y)), (11, .int (nI z))]) C.x C.b dL_law_152 hl (by decide) rfl (fun ls hl => ?_)
  refine lv_aload_n C.x C.b dL_law_154 rfl (lv_at hl 2 rfl) ?_
  refine lv_iload C.x C.b dL_law_155 (lv_at hl 0 rfl) ?_
  refine lv_iload C.x C.b dL_law_157 (lv_at hl 12 rfl) ?_
  refine lv_iconst (v := (nI 3)) C.x C.b dL_law_159 (by decide) ?_
  refine lv_irem C.x C.b dL_law_160 (by decide) ?_
  refine k_topi (y := (nI (z % 3))) (pk_rem (by omega) (by omega) (by omega)) ?_
  refine k_cI (As := [.int (nI a), .int (nI (z % 3))]) (rest := []) (c2 := cells + 16) (s2 := slots + 128) (v := (nI d)) (m1 := m) C hX (iop_around hst hI (nI a) (nI (z % 3))) (ev_around_y ⟨mIn_in ha (by omega), nI_nn (by omega)⟩ (by rw [nI_clamp (by omega)]; exact w1) (by rw [nI_clamp (by omega)]; exact w2)) hI.hd (gl_same inv_X8_around) rfl ⟨rfl, hdA_X8_around⟩ (by decide) rfl hl.1 rfl (Nat.le_of_ble_eq_true rfl) dL_law_161 ⟨by omega, by omega⟩ ⟨by omega, by omega⟩ (by omega) (by omega) (fun f H locs hX hI => ?_)
  refine lv_istore (lv' := [(13, .int (nI d)), (12, .int (nI a)), (0, .ref b), (1, .ref h), (2, .int (nI m.nd)), (3, .int (nI m.ng)), (4, .int (nI m.nm)), (5, .int (nI m.nc)), (6, .int (nI m.nw)), (7, .int (nI k)), (8, .int (nI x)), (9, .int (nI 3)), (10, .int (nI y)), (11, .int (nI z))]) C.x C.b dL_law_164 hl (by decide) rfl (fun ls hl => ?_)
  refine lv_aload_n C.x C.b dL_law_166 rfl (lv_at hl 3 rfl) ?_
  refine lv_iconst (v := (nI 3)) C.x C.b dL_law_167 (by decide) ?_
  refine k_cI (As := [.int (nI 3)]) (rest := []) (c2 := cells + 24) (s2 := slots + 192) (v := (nI (mNet m.fa m.fc m.cc 3))) (m1 := m) C hX (iop_net hst hI (nI 3)) (e_net3) hI.hd (gl_same inv_X8_net) rfl ⟨rfl, hdA_X8_net⟩ (by decide) rfl hl.1 rfl (Nat.le_of_ble_eq_true rfl) dL_law_168 ⟨by omega, by omega⟩ ⟨by omega, by omega⟩ (by omega) (by omega) (fun f H locs hX hI => ?_)
  refine lv_istore (lv' := [(14, .int (nI (mNet m.fa m.fc m.cc 3))), (13, .int (nI d)), (12, .int (nI a)), (0, .ref b), (1, .ref h), (2, .int (nI m.nd)), (3, .int (nI m.ng)), (4, .int (nI m.nm)), (5, .int (nI m.nc)), (6, .int (nI m.nw)), (7, .int (nI k)), (8, .int (nI x)), (9, .int (nI 3)), (10, .int (nI y)), (11, .int (nI z))]) C.x C.b dL_law_171 hl (by decide) rfl (fun ls hl => ?_)
  refine lv_aload_n C.x C.b dL_law_173 rfl (lv_at hl 4 rfl) ?_
  refine lv_iconst (v := (nI 1)) C.x C.b dL_law_174 (by decide) ?_
  refine lv_iload C.x C.b dL_law_175 (lv_at hl 2 rfl) ?_
  refine lv_iload C.x C.b dL_law_177 (lv_at hl 1 rfl) ?_
  refine lv_iconst (v := (nI 0)) C.x C.b dL_law_179 (by decide) ?_
  refine lv_iconst (v := (nI 0)) C.x C.b dL_law_180 (by decide) ?_
  by_cases qc : mCanFlip m.fa m.fc (nI a) (nI d)
  ·
    obtain ⟨u, v, A1, A2, A3, hu, hv, huv, hab, e1, e2, e3, e4⟩ := flip_all hT ha hd2 qc
    obtain ⟨p1, p2, p3, p4⟩ := pair_nums u hu v hv huv
    refine k_actI (As := [.ref h, .int (nI 1), .int (nI a), .int (nI d), .int (nI 0), .int (nI 0)]) (rest := []) (c2 := cells + 32) (s2 := slots + 256) (v := (nI (pPair u v)).toInt64) (m1 := (pMk m.cc m.fc m.nd m.ng m.nm m.nc m.nw A1 m.dx m.dy m.dr m.fo m.ro m.mv m.pr m.ea m.eb)) C hX (act_1 hI.hd (nI a) (nI d) (nI 0) (nI 0) (iop_flip hst hI (nI a) (nI d))) (e1) (rfl) (gl_same inv_L_act) rfl hl.1 rfl (Nat.le_of_ble_eq_true rfl) dL_law_181 ⟨by omega, by omega⟩ ⟨by omega, by omega⟩ (by omega) (by omega) (fun f H locs hX hI => ?_)
    refine lv_lstore (lv' := [(15, .long ((nI (pPair u v)).toInt64)), (14, .int (nI (mNet m.fa m.fc m.cc 3))), (13, .int (nI d)), (12, .int (nI a)), (0, .ref b), (1, .ref h), (2, .int (nI m.nd)), (3, .int (nI m.ng)), (4, .int (nI m.nm)), (5, .int (nI m.nc)), (6, .int (nI m.nw)), (7, .int (nI k)), (8, .int (nI x)), (9, .int (nI 3)), (10, .int (nI y)), (11, .int (nI z))]) C.x C.b dL_law_184 hl (by decide) rfl (fun ls hl => ?_)
    refine lv_lload C.x C.b dL_law_186 (lv_at hl 0 rfl) ?_
    refine lv_ldc2 (v := (-7000003)) C.x C.b C.ow (C.ts _ lkC_4) dL_law_188 ?_
    refine k_lcmp_eq (tgt := 273) C.x C.b dL_law_191 dL_law_192 (by decide) (fun q9 => absurd q9 (p4)) (fun _ => ?_)
    refine lv_lload C.x C.b dL_law_195 (lv_at hl 0 rfl) ?_
    refine lv_ldc2 (v := 100) C.x C.b C.ow (C.ts _ lkC_5) dL_law_197 ?_
    refine lv_ldiv C.x C.b dL_law_200 (by decide) ?_
    refine lv_lload C.x C.b dL_law_201 (lv_at hl 0 rfl) ?_
    refine lv_ldc2 (v := 100) C.x C.b C.ow (C.ts _ lkC_5) dL_law_203 ?_
    refine lv_lrem C.x C.b dL_law_206 (by decide) ?_
    refine k_lcmp_ge (tgt := 271) C.x C.b dL_law_207 dL_law_208 (by decide) (fun q9 => absurd (p1) q9) (fun _ => ?_)
    refine lv_aload_n C.x C.b dL_law_211 rfl (lv_at hl 5 rfl) ?_
    refine lv_iconst (v := (nI 1)) C.x C.b dL_law_212 (by decide) ?_
    refine lv_lload C.x C.b dL_law_213 (lv_at hl 0 rfl) ?_
    refine lv_l2i (v := ((nI (pPair u v)).toInt64).toInt32) C.x C.b dL_law_215 rfl ?_
    refine lv_bipush (v := (nI 100)) C.x C.b dL_law_216 (by decide) ?_
    refine lv_idiv C.x C.b dL_law_218 (by decide) ?_
    refine k_topi (y := (nI (if u < v then u else v))) (p2) ?_
    refine lv_lload C.x C.b dL_law_219 (lv_at hl 0 rfl) ?_
    refine lv_l2i (v := ((nI (pPair u v)).toInt64).toInt32) C.x C.b dL_law_221 rfl ?_
    refine lv_bipush (v := (nI 100)) C.x C.b dL_law_222 (by decide) ?_
    refine lv_irem C.x C.b dL_law_224 (by decide) ?_
    refine k_topi (y := (nI (if u < v then v else u))) (p3) ?_
    refine lv_iconst (v := (nI 0)) C.x C.b dL_law_225 (by decide) ?_
    refine lv_iconst (v := (nI 0)) C.x C.b dL_law_226 (by decide) ?_
    refine k_actI (As := [.ref h, .int (nI 1), .int (nI (if u < v then u else v)), .int (nI (if u < v then v else u)), .int (nI 0), .int (nI 0)]) (rest := []) (c2 := cells + 40) (s2 := slots + 320) (v := (nI (pPair a d)).toInt64) (m1 := (pMk m.cc m.fc m.nd m.ng m.nm m.nc m.nw A2 m.dx m.dy m.dr m.fo m.ro m.mv m.pr m.ea m.eb)) C hX (act_1 hI.hd (nI (if u < v then u else v)) (nI (if u < v then v else u)) (nI 0) (nI 0) (iop_flip hst hI (nI (if u < v then u else v)) (nI (if u < v then v else u)))) (e2) (rfl) (gl_same inv_L_act) rfl hl.1 rfl (Nat.le_of_ble_eq_true rfl) dL_law_227 ⟨by omega, by omega⟩ ⟨by omega, by omega⟩ (by omega) (by omega) (fun f H locs hX hI => ?_)
    refine lv_iload C.x C.b dL_law_230 (lv_at hl 3 rfl) ?_
    refine lv_iload C.x C.b dL_law_232 (lv_at hl 2 rfl) ?_
    by_cases qlt : a < d
    ·
      refine lv_icmp_ge (tgt := 248) C.x C.b dL_law_234 (by decide) (fun q9 => absurd q9 (nI_ge qlt (by omega))) (fun _ => ?_)
      refine lv_bipush (v := (nI 100)) C.x C.b dL_law_237 (by decide) ?_
      refine lv_iload C.x C.b dL_law_239 (lv_at hl 3 rfl) ?_
      refine lv_imul C.x C.b dL_law_241 ?_
      refine k_topi (y := (nI (100 * a))) (pk_mul _ _) ?_
      refine lv_iload C.x C.b dL_law_242 (lv_at hl 2 rfl) ?_
      refine lv_iadd C.x C.b dL_law_244 ?_
      refine k_topi (y := (nI (100 * a + d))) (nI_add _ _) ?_
      refine lv_goto (tgt := 256) C.x C.b dL_law_245 (by decide) ?_
      refine lv_i2l (v := (nI (100 * a + d)).toInt64) C.x C.b dL_law_256 rfl ?_
      refine k_lcmp_ne (tgt := 271) C.x C.b dL_law_257 dL_law_258 (by decide) (fun q9 => absurd (congrArg (fun n9 => (nI n9).toInt64) (pPair_l qlt)) q9) (fun _ => ?_)
      refine lv_aload_n C.x C.b dL_law_261 rfl (lv_at hl 5 rfl) ?_
      refine lv_iconst (v := (nI 3)) C.x C.b dL_law_262 (by decide) ?_
      refine k_cI (As := [.int (nI 3)]) (rest := []) (c2 := cells + 48) (s2 := slots + 384) (v := (nI (mNet m.fa m.fc m.cc 3))) (m1 := (pMk m.cc m.fc m.nd m.ng m.nm m.nc m.nw A2 m.dx m.dy m.dr m.fo m.ro m.mv m.pr m.ea m.eb)) C hX (iop_net hst hI (nI 3)) (ev_net (m := (pMk m.cc m.fc m.nd m.ng m.nm m.nc m.nw A2 m.dx m.dy m.dr m.fo m.ro m.mv m.pr m.ea m.eb)) (by decide) (congrArg nI e3)) hI.hd (gl_same inv_X8_net) rfl ⟨rfl, hdA_X8_net⟩ (by decide) rfl hl.1 rfl (Nat.le_of_ble_eq_true rfl) dL_law_263 ⟨by omega, by omega⟩ ⟨by omega, by omega⟩ (by omega) (by omega) (fun f H locs hX hI => ?_)
      refine lv_iload C.x C.b dL_law_266 (lv_at hl 1 rfl) ?_
      refine lv_icmp_eq (tgt := 273) C.x C.b dL_law_268 (by decide) (fun _ => ?_) (fun q9 => absurd (rfl) q9)
      refine lv_lload C.x C.b dL_law_273 (lv_at hl 0 rfl) ?_
      refine lv_ldc2 (v := (-7000003)) C.x C.b C.ow (C.ts _ lkC_4) dL_law_275 ?_
      refine k_lcmp_eq (tgt := 301) C.x C.b dL_law_278 dL_law_279 (by decide) (fun q9 => absurd q9 (p4)) (fun _ => ?_)
      refine lv_aload_n C.x C.b dL_law_282 rfl (lv_at hl 5 rfl) ?_
      refine lv_iconst (v := (nI 1)) C.x C.b dL_law_283 (by decide) ?_
      refine lv_iload C.x C.b dL_law_284 (lv_at hl 2 rfl) ?_
      refine lv_iload C.x C.b dL_law_286 (lv_at hl 3 rfl) ?_
      refine lv_iconst (v := (nI 0)) C.x C.b dL_law_288 (by decide) ?_
      refine lv_iconst (v := (nI 0)) C.x C.b dL_law_289 (by decide) ?_
      refine k_actI (As := [.ref h, .int (nI 1), .int (nI d), .int (nI a), .int (nI 0), .int (nI 0)]) (rest := []) (c2 := cells + 56) (s2 := slots + 448) (v := (nI (pPair u v)).toInt64) (m1 := (pMk m.cc m.fc m.nd m.ng m.nm m.nc m.nw A3 m.dx m.dy m.dr m.fo m.ro m.mv m.pr m.ea m.eb)) C hX (act_1 hI.hd (nI d) (nI a) (nI 0) (nI 0) (iop_flip hst hI (nI d) (nI a))) (e4) (rfl) (gl_same inv_L_act) rfl hl.1 rfl (Nat.le_of_ble_eq_true rfl) dL_law_290 ⟨by omega, by omega⟩ ⟨by omega, by omega⟩ (by omega) (by omega) (fun f H locs hX hI => ?_)
      refine lv_lload C.x C.b dL_law_293 (lv_at hl 0 rfl) ?_
      refine k_lcmp_eq (tgt := 301) C.x C.b dL_law_295 dL_law_296 (by decide) (fun _ => ?_) (fun q9 => absurd (rfl) q9)
      refine lv_goto (tgt := 1207) C.x C.b dL_law_301 (by decide) ?_
      refine W.widen (k := cells + 2000) (n := slots + 16000) (by omega) (by omega) ?_
      exact K f H locs (pMk m.cc m.fc m.nd m.ng m.nm m.nc m.nw A3 m.dx m.dy m.dr m.fo m.ro m.mv m.pr m.ea m.eb) ls hX hI hd (lv_sub hl [4, 5, 6, 7, 8, 9, 10, 11] rfl)
    ·
      refine lv_icmp_ge (tgt := 248) C.x C.b dL_law_234 (by decide) (fun _ => ?_) (fun q9 => absurd (nI_le (by omega) (by omega)) q9)
      refine lv_bipush (v := (nI 100)) C.x C.b dL_law_248 (by decide) ?_
      refine lv_iload C.x C.b dL_law_250 (lv_at hl 2 rfl) ?_
      refine lv_imul C.x C.b dL_law_252 ?_
      refine k_topi (y := (nI (100 * d))) (pk_mul _ _) ?_
      refine lv_iload C.x C.b dL_law_253 (lv_at hl 3 rfl) ?_
      refine lv_iadd C.x C.b dL_law_255 ?_
      refine k_topi (y := (nI (100 * d + a))) (nI_add _ _) ?_
      refine lv_i2l (v := (nI (100 * d + a)).toInt64) C.x C.b dL_law_256 rfl ?_
      refine k_lcmp_ne (tgt := 271) C.x C.b dL_law_257 dL_law_258 (by decide) (fun q9 => absurd (congrArg (fun n9 => (nI n9).toInt64) (pPair_g qlt)) q9) (fun _ => ?_)
      refine lv_aload_n C.x C.b dL_law_261 rfl (lv_at hl 5 rfl) ?_
      refine lv_iconst (v := (nI 3)) C.x C.b dL_law_262 (by decide) ?_
      refine k_cI (As := [.int (nI 3)]) (rest := []) (c2 := cells + 48) (s2 := slots + 384) (v := (nI (mNet m.fa m.fc m.cc 3))) (m1 := (pMk m.cc m.fc m.nd m.ng m.nm m.nc m.nw A2 m.dx m.dy m.dr m.fo m.ro m.mv m.pr m.ea m.eb)) C hX (iop_net hst hI (nI 3)) (ev_net (m := (pMk m.cc m.fc m.nd m.ng m.nm m.nc m.nw A2 m.dx m.dy m.dr m.fo m.ro m.mv m.pr m.ea m.eb)) (by decide) (congrArg nI e3)) hI.hd (gl_same inv_X8_net) rfl ⟨rfl, hdA_X8_net⟩ (by decide) rfl hl.1 rfl (Nat.le_of_ble_eq_true rfl) dL_law_263 ⟨by omega, by omega⟩ ⟨by omega, by omega⟩ (by omega) (by omega) (fun f H locs hX hI => ?_)
      refine lv_iload C.x C.b dL_law_266 (lv_at hl 1 rfl) ?_
      refine lv_icmp_eq (tgt := 273) C.x C.b dL_law_268 (by decide) (fun _ => ?_) (fun q9 => absurd (rfl) q9)
      refine lv_lload C.x C.b dL_law_273 (lv_at hl 0 rfl) ?_
      refine lv_ldc2 (v := (-7000003)) C.x C.b C.ow (C.ts _ lkC_4) dL_law_275 ?_
      refine k_lcmp_eq (tgt := 301) C.x C.b dL_law_278 dL_law_279 (by decide) (fun q9 => absurd q9 (p4)) (fun _ => ?_)
      refine lv_aload_n C.x C.b dL_law_282 rfl (lv_at hl 5 rfl) ?_
      refine lv_iconst (v := (nI 1)) C.x C.b dL_law_283 (by decide) ?_
      refine lv_iload C.x C.b dL_law_284 (lv_at hl 2 rfl) ?_
      refine lv_iload C.x C.b dL_law_286 (lv_at hl 3 rfl) ?_
      refine lv_iconst (v := (nI 0)) C.x C.b dL_law_288 (by decide) ?_
      refine lv_iconst (v := (nI 0)) C.x C.b dL_law_289 (by decide) ?_
      refine k_actI (As := [.ref h, .int (nI 1), .int (nI d), .int (nI a), .int (nI 0), .int (nI 0)]) (rest := []) (c2 := cells + 56) (s2 := slots + 448) (v := (nI (pPair u v)).toInt64) (m1 := (pMk m.cc m.fc m.nd m.ng m.nm m.nc m.nw A3 m.dx m.dy m.dr m.fo m.ro m.mv m.pr m.ea m.eb)) C hX (act_1 hI.hd (nI d) (nI a) (nI 0) (nI 0) (iop_flip hst hI (nI d) (nI a))) (e4) (rfl) (gl_same inv_L_act) rfl hl.1 rfl (Nat.le_of_ble_eq_true rfl) dL_law_290 ⟨by omega, by omega⟩ ⟨by omega, by omega⟩ (by omega) (by omega) (fun f H locs hX hI => ?_)
      refine lv_lload C.x C.b dL_law_293 (lv_at hl 0 rfl) ?_
      refine k_lcmp_eq (tgt := 301) C.x C.b dL_law_295 dL_law_296 (by decide) (fun _ => ?_) (fun q9 => absurd (rfl) q9)
      refine lv_goto (tgt := 1207) C.x C.b dL_law_301 (by decide) ?_
      refine W.widen (k := cells + 2000) (n := slots + 16000) (by omega) (by omega) ?_
      exact K f H locs (pMk m.cc m.fc m.nd m.ng m.nm m.nc m.nw A3 m.dx m.dy m.dr m.fo m.ro m.mv m.pr m.ea m.eb) ls hX hI hd (lv_sub hl [4, 5, 6, 7, 8, 9, 10, 11] rfl)
  ·
    refine k_actI (As := [.ref h, .int (nI 1), .int (nI a), .int (nI d), .int (nI 0), .int (nI 0)]) (rest := []) (c2 := cells + 32) (s2 := slots + 256) (v := (-7000003)) (m1 := m) C hX (act_1 hI.hd (nI a) (nI d) (nI 0) (nI 0) (iop_flip hst hI (nI a) (nI d))) (e_flip_s ⟨mIn_in ha (by omega), mIn_in hd2 (by omega)⟩ qc) (rfl) (gl_same inv_L_act) rfl hl.1 rfl (Nat.le_of_ble_eq_true rfl) dL_law_181 ⟨by omega, by omega⟩ ⟨by omega, by omega⟩ (by omega) (by omega) (fun f H locs hX hI => ?_)
    refine lv_lstore (lv' := [(15, .long (-7000003)), (14, .int (nI (mNet m.fa m.fc m.cc 3))), (13, .int (nI d)), (12, .int (nI a)), (0, .ref b), (1, .ref h), (2, .int (nI m.nd)), (3, .int (nI m.ng)), (4, .int (nI m.nm)), (5, .int (nI m.nc)), (6, .int (nI m.nw)), (7, .int (nI k)), (8, .int (nI x)), (9, .int (nI 3)), (10, .int (nI y)), (11, .int (nI z))]) C.x C.b dL_law_184 hl (by decide) rfl (fun ls hl => ?_)
    refine lv_lload C.x C.b dL_law_186 (lv_at hl 0 rfl) ?_
    refine lv_ldc2 (v := (-7000003)) C.x C.b C.ow (C.ts _ lkC_4) dL_law_188 ?_
    refine k_lcmp_eq (tgt := 273) C.x C.b dL_law_191 dL_law_192 (by decide) (fun _ => ?_) (fun q9 => absurd (by decide) q9)
    refine lv_lload C.x C.b dL_law_273 (lv_at hl 0 rfl) ?_
    refine lv_ldc2 (v := (-7000003)) C.x C.b C.ow (C.ts _ lkC_4) dL_law_275 ?_
    refine k_lcmp_eq (tgt := 301) C.x C.b dL_law_278 dL_law_279 (by decide) (fun _ => ?_) (fun q9 => absurd (by decide) q9)
    refine lv_goto (tgt := 1207) C.x C.b dL_law_301 (by decide) ?_
    refine W.widen (k := cells + 2000) (n := slots + 16000) (by omega) (by omega) ?_
    exact K f H locs m ls hX hI hd (lv_sub hl [4, 5, 6, 7, 8, 9, 10, 11] rfl)
end LW0
