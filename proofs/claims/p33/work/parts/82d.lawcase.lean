/-! the law's drawn calls: 82d.lawcase -/
section LW3
variable {p : Program} {l : Launch} {e : Env} {R : Room} {s : State} {mi : MethodId} {args : Array Value} {below : List Frame} {meth : Method} {c : Code} {H : Heap} {locs : List Loc} {cells slots : Nat} {Q : State → Prop}
variable {ls : Array Slot} {G : kG} {B0 h b k x y z : Nat} {f : kH} {m : pSt}
set_option maxHeartbeats 8000000 in
set_option maxRecDepth 100000 in
theorem law_w7b (hst : l.stackTraces = false) (C : kC G B0 p mi c cL_law 18 s args wsL_law RL) (hX : kX G B0 s f H locs) (hR : 400 ≤ R.frames ∧ 24000 ≤ R.locals) (hcl : cells + 2000 ≤ R.cells ∧ slots + 16000 ≤ R.slots) (hI : Inv G h f m) (hd : dInv m) (hx : x < 16777216) (hy : y < 16777216) (hz : z < 16777216) (h0 : m.ng = 0) (hl : lv_has ls 18 [(0, .ref b), (1, .ref h), (2, .int (nI m.nd)), (3, .int (nI m.ng)), (4, .int (nI m.nm)), (5, .int (nI m.nc)), (6, .int (nI m.nw)), (7, .int (nI k)), (8, .int (nI x)), (9, .int (nI 7)), (10, .int (nI y)), (11, .int (nI z))])
    (K : ∀ (f1 : kH) (H1 : Heap) (locs1 : List Loc) (m1 : pSt) (ls1 : Array Slot), kX G B0 s f1 H1 locs1 → Inv G h f1 m1 → dInv m1 → lv_has ls1 18 (lwB b h m1 k) → W p l e R s mi args below meth c H1 locs1 (cells + 2000) (slots + 16000) Q (F0 mi 1207 ls1 [])) : W p l e R s mi args below meth c H locs cells slots Q (F0 mi 85 ls []) := by
  obtain ⟨b4, b16, bf, bd, bg, bm, bc2, bc6, bw⟩ := hI.bd
  obtain ⟨p9, hp9, ep9⟩ : ∃ p9, p9 < 41 ∧ y % 41 = p9 := ⟨_, Nat.mod_lt _ (by decide), rfl⟩
  obtain ⟨q9, hq9, eq9⟩ : ∃ q9, q9 < 20 ∧ z % 20 = q9 := ⟨_, Nat.mod_lt _ (by decide), rfl⟩
  obtain ⟨r9, hr9, er9⟩ : ∃ r9, r9 < 41 ∧ z % 41 = r9 := ⟨_, Nat.mod_lt _ (by decide), rfl⟩
  refine lv_iload C.x C.b dL_law_85 (lv_at hl 9 rfl) ?_
  refine lv_iconst (v := (nI 2)) C.x C.b dL_law_87 (by decide) ?_
  refine lv_icmp_ge (tgt := 138) C.x C.b dL_law_88 (by decide) (fun _ => ?_) (fun q9 => absurd (by decide) q9)
  refine lv_iload C.x C.b dL_law_138 (lv_at hl 9 rfl) ?_
  refine lv_iconst (v := (nI 4)) C.x C.b dL_law_140 (by decide) ?_
  refine lv_icmp_ge (tgt := 304) C.x C.b dL_law_141 (by decide) (fun _ => ?_) (fun q9 => absurd (by decide) q9)
  refine lv_iload C.x C.b dL_law_304 (lv_at hl 9 rfl) ?_
  refine lv_bipush (v := (nI 6)) C.x C.b dL_law_306 (by decide) ?_
  refine lv_icmp_ge (tgt := 493) C.x C.b dL_law_308 (by decide) (fun _ => ?_) (fun q9 => absurd (by decide) q9)
  refine lv_iload C.x C.b dL_law_493 (lv_at hl 9 rfl) ?_
  refine lv_bipush (v := (nI 6)) C.x C.b dL_law_495 (by decide) ?_
  refine lv_icmp_ne (tgt := 684) C.x C.b dL_law_497 (by decide) (fun _ => ?_) (fun q9 => absurd q9 (by decide))
  refine lv_iload C.x C.b dL_law_684 (lv_at hl 9 rfl) ?_
  refine lv_bipush (v := (nI 7)) C.x C.b dL_law_686 (by decide) ?_
  refine lv_icmp_ne (tgt := 763) C.x C.b dL_law_688 (by decide) (fun q9 => absurd (by decide) q9) (fun _ => ?_)
  refine lv_iload_n C.x C.b dL_law_691 rfl (lv_at hl 3 rfl) ?_
  refine lv_if_le (tgt := 763) C.x C.b dL_law_692 (by decide) (fun _ => ?_) (fun q9 => absurd (by rw [h0]; decide) q9)
  refine lv_iload C.x C.b dL_law_763 (lv_at hl 9 rfl) ?_
  refine lv_bipush (v := (nI 9)) C.x C.b dL_law_765 (by decide) ?_
  refine lv_icmp_ge (tgt := 867) C.x C.b dL_law_767 (by decide) (fun q9 => absurd q9 (by decide)) (fun _ => ?_)
  refine lv_iload C.x C.b dL_law_770 (lv_at hl 10 rfl) ?_
  refine lv_bipush (v := (nI 41)) C.x C.b dL_law_772 (by decide) ?_
  refine lv_irem C.x C.b dL_law_774 (by decide) ?_
  refine k_topi (y := (nI p9)) ((pk_rem (by omega) (by omega) (by omega)).trans (congrArg nI ep9)) ?_
  refine lv_bipush (v := (nI 20)) C.x C.b dL_law_775 (by decide) ?_
  refine lv_isub C.x C.b dL_law_777 ?_
  refine lv_istore (lv' := [(12, .int ((nI p9) - (nI 20))), (0, .ref b), (1, .ref h), (2, .int (nI m.nd)), (3, .int (nI m.ng)), (4, .int (nI m.nm)), (5, .int (nI m.nc)), (6, .int (nI m.nw)), (7, .int (nI k)), (8, .int (nI x)), (9, .int (nI 7)), (10, .int (nI y)), (11, .int (nI z))]) C.x C.b dL_law_778 hl (by decide) rfl (fun ls hl => ?_)
  refine lv_iconst (v := (nI 1)) C.x C.b dL_law_780 (by decide) ?_
  refine lv_iload C.x C.b dL_law_781 (lv_at hl 12 rfl) ?_
  refine lv_bipush (v := (nI 20)) C.x C.b dL_law_783 (by decide) ?_
  refine lv_irem C.x C.b dL_law_785 (by decide) ?_
  refine k_topi (y := (nI q9)) ((pk_rem (by omega) (by omega) (by omega)).trans (congrArg nI eq9)) ?_
  refine lv_iadd C.x C.b dL_law_786 ?_
  refine k_topi (y := (nI (1 + q9))) (nI_add _ _) ?_
  refine lv_istore (lv' := [(13, .int (nI (1 + q9))), (12, .int ((nI p9) - (nI 20))), (0, .ref b), (1, .ref h), (2, .int (nI m.nd)), (3, .int (nI m.ng)), (4, .int (nI m.nm)), (5, .int (nI m.nc)), (6, .int (nI m.nw)), (7, .int (nI k)), (8, .int (nI x)), (9, .int (nI 7)), (10, .int (nI y)), (11, .int (nI z))]) C.x C.b dL_law_787 hl (by decide) rfl (fun ls hl => ?_)
  refine lv_iload C.x C.b dL_law_789 (lv_at hl 13 rfl) ?_
  refine lv_bipush (v := (nI 41)) C.x C.b dL_law_791 (by decide) ?_
  refine lv_irem C.x C.b dL_law_793 (by decide) ?_
  refine k_topi (y := (nI r9)) ((pk_rem (by omega) (by omega) (by omega)).trans (congrArg nI er9)) ?_
  refine lv_bipush (v := (nI 20)) C.x C.b dL_law_794 (by decide) ?_
  refine lv_isub C.x C.b dL_law_796 ?_
  refine lv_istore (lv' := [(14, .int ((nI r9) - (nI 20))), (13, .int (nI (1 + q9))), (12, .int ((nI p9) - (nI 20))), (0, .ref b), (1, .ref h), (2, .int (nI m.nd)), (3, .int (nI m.ng)), (4, .int (nI m.nm)), (5, .int (nI m.nc)), (6, .int (nI m.nw)), (7, .int (nI k)), (8, .int (nI x)), (9, .int (nI 7)), (10, .int (nI y)), (11, .int (nI z))]) C.x C.b dL_law_797 hl (by decide) rfl (fun ls hl => ?_)
  refine lv_aload_n C.x C.b dL_law_799 rfl (lv_at hl 4 rfl) ?_
  refine lv_bipush (v := (nI 18)) C.x C.b dL_law_800 (by decide) ?_
  refine lv_iload C.x C.b dL_law_802 (lv_at hl 2 rfl) ?_
  refine lv_iload C.x C.b dL_law_804 (lv_at hl 1 rfl) ?_
  refine lv_iload C.x C.b dL_law_806 (lv_at hl 0 rfl) ?_
  refine lv_iconst (v := (nI 1)) C.x C.b dL_law_808 (by decide) ?_
  by_cases hv : mFr ((nI p9) - (nI 20)) (nI (1 + q9)) 1 ∧ mFr ((nI r9) - (nI 20)) (nI 1) 1 ∧ ¬ mCross ((nI p9) - (nI 20)) (nI (1 + q9)) ((nI r9) - (nI 20)) (nI 1) = 0
  ·
    obtain ⟨tv, etv⟩ : ∃ tv, c_between m ((nI p9) - (nI 20)) (nI (1 + q9)) ((nI r9) - (nI 20)) (nI 1) (nI 1) = (0, tv, m) := ⟨_, ev_between hv rfl⟩
    refine k_actJ (As := [.ref h, .int (nI 18), .int ((nI p9) - (nI 20)), .int (nI (1 + q9)), .int ((nI r9) - (nI 20)), .int (nI 1)]) (rest := []) (c2 := cells + 8) (s2 := slots + 64) (v := tv) (m1 := m) C hX (act_18 hI.hd ((nI p9) - (nI 20)) (nI (1 + q9)) ((nI r9) - (nI 20)) (nI 1) (iop_between hst hI ((nI p9) - (nI 20)) (nI (1 + q9)) ((nI r9) - (nI 20)) (nI 1) (nI 1))) (etv) (rfl) (gl_same inv_L_act) rfl hl.1 rfl (Nat.le_of_ble_eq_true rfl) dL_law_809 ⟨by omega, by omega⟩ ⟨by omega, by omega⟩ (by omega) (by omega) (fun f H locs hX hI => ?_)
    refine lv_lstore (lv' := [(15, .long tv), (14, .int ((nI r9) - (nI 20))), (13, .int (nI (1 + q9))), (12, .int ((nI p9) - (nI 20))), (0, .ref b), (1, .ref h), (2, .int (nI m.nd)), (3, .int (nI m.ng)), (4, .int (nI m.nm)), (5, .int (nI m.nc)), (6, .int (nI m.nw)), (7, .int (nI k)), (8, .int (nI x)), (9, .int (nI 7)), (10, .int (nI y)), (11, .int (nI z))]) C.x C.b dL_law_812 hl (by decide) rfl (fun ls hl => ?_)
    refine lv_lload C.x C.b dL_law_814 (lv_at hl 0 rfl) ?_
    refine lv_ldc2 (v := (-7000002)) C.x C.b C.ow (C.ts _ lkC_6) dL_law_816 ?_
    by_cases q2 : tv = -7000002
    ·
      refine k_lcmp_eq (tgt := 864) C.x C.b dL_law_819 dL_law_820 (by decide) (fun _ => ?_) (fun q9 => absurd (q2) q9)
      refine lv_goto (tgt := 1207) C.x C.b dL_law_864 (by decide) ?_
      refine W.widen (k := cells + 2000) (n := slots + 16000) (by omega) (by omega) ?_
      exact K f H locs m ls hX hI hd (lv_sub hl [4, 5, 6, 7, 8, 9, 10, 11] rfl)
    ·
      refine k_lcmp_eq (tgt := 864) C.x C.b dL_law_819 dL_law_820 (by decide) (fun q9 => absurd q9 (q2)) (fun _ => ?_)
      refine lv_aload_n C.x C.b dL_law_823 rfl (lv_at hl 5 rfl) ?_
      refine lv_bipush (v := (nI 17)) C.x C.b dL_law_824 (by decide) ?_
      refine lv_iload C.x C.b dL_law_826 (lv_at hl 3 rfl) ?_
      refine lv_iload C.x C.b dL_law_828 (lv_at hl 2 rfl) ?_
      refine lv_iload C.x C.b dL_law_830 (lv_at hl 1 rfl) ?_
      refine lv_iconst (v := (nI 1)) C.x C.b dL_law_832 (by decide) ?_
      refine k_actI (As := [.ref h, .int (nI 17), .int ((nI p9) - (nI 20)), .int (nI (1 + q9)), .int ((nI r9) - (nI 20)), .int (nI 1)]) (rest := []) (c2 := cells + 16) (s2 := slots + 128) (v := (mFord (mCross ((nI p9) - (nI 20)) (nI (1 + q9)) ((nI r9) - (nI 20)) (nI 1))).toInt64) (m1 := m) C hX (act_17 hI.hd ((nI p9) - (nI 20)) (nI (1 + q9)) ((nI r9) - (nI 20)) (nI 1) (iop_ford hst hI ((nI p9) - (nI 20)) (nI (1 + q9)) ((nI r9) - (nI 20)) (nI 1))) (ev_ford ⟨hv.1, hv.2.1⟩ rfl) (rfl) (gl_same inv_L_act) rfl hl.1 rfl (Nat.le_of_ble_eq_true rfl) dL_law_833 ⟨by omega, by omega⟩ ⟨by omega, by omega⟩ (by omega) (by omega) (fun f H locs hX hI => ?_)
      refine lv_lconst (v := 1) C.x C.b dL_law_836 (by decide) ?_
      rcases ford_cs (mCross ((nI p9) - (nI 20)) (nI (1 + q9)) ((nI r9) - (nI 20)) (nI 1)) with qf | qf
      ·
        refine k_lcmp_ne (tgt := 864) C.x C.b dL_law_837 dL_law_838 (by decide) (fun q9 => absurd (by rw [qf]; rfl) q9) (fun _ => ?_)
        refine lv_aload_n C.x C.b dL_law_841 rfl (lv_at hl 5 rfl) ?_
        refine lv_iload C.x C.b dL_law_842 (lv_at hl 3 rfl) ?_
        refine lv_iload C.x C.b dL_law_844 (lv_at hl 2 rfl) ?_
        refine lv_iload C.x C.b dL_law_846 (lv_at hl 1 rfl) ?_
        refine lv_iconst (v := (nI 1)) C.x C.b dL_law_848 (by decide) ?_
        refine lv_iconst (v := (nI 0)) C.x C.b dL_law_849 (by decide) ?_
        refine k_cJ (As := [.int ((nI p9) - (nI 20)), .int (nI (1 + q9)), .int ((nI r9) - (nI 20)), .int (nI 1), .int (nI 0)]) (rest := []) (c2 := cells + 24) (s2 := slots + 192) (v := ((nI (1 + q9)) + (nI 1)).toInt64) (m1 := m) C hX (iop_between hst hI ((nI p9) - (nI 20)) (nI (1 + q9)) ((nI r9) - (nI 20)) (nI 1) (nI 0)) (ev_between hv (btw_ok r9 hr9 q9 hq9 p9 hp9 qf)) hI.hd (gl_same inv_X8_between) rfl ⟨rfl, hdA_X8_between⟩ (by decide) rfl hl.1 rfl (Nat.le_of_ble_eq_true rfl) dL_law_850 ⟨by omega, by omega⟩ ⟨by omega, by omega⟩ (by omega) (by omega) (fun f H locs hX hI => ?_)
        refine lv_iload C.x C.b dL_law_853 (lv_at hl 2 rfl) ?_
        refine lv_iconst (v := (nI 1)) C.x C.b dL_law_855 (by decide) ?_
        refine lv_iadd C.x C.b dL_law_856 ?_
        refine lv_i2l (v := ((nI (1 + q9)) + (nI 1)).toInt64) C.x C.b dL_law_857 rfl ?_
        refine k_lcmp_eq (tgt := 864) C.x C.b dL_law_858 dL_law_859 (by decide) (fun _ => ?_) (fun q9 => absurd (rfl) q9)
        refine lv_goto (tgt := 1207) C.x C.b dL_law_864 (by decide) ?_
        refine W.widen (k := cells + 2000) (n := slots + 16000) (by omega) (by omega) ?_
        exact K f H locs m ls hX hI hd (lv_sub hl [4, 5, 6, 7, 8, 9, 10, 11] rfl)
      ·
        refine k_lcmp_ne (tgt := 864) C.x C.b dL_law_837 dL_law_838 (by decide) (fun _ => ?_) (fun q9 => absurd q9 (qf))
        refine lv_goto (tgt := 1207) C.x C.b dL_law_864 (by decide) ?_
        refine W.widen (k := cells + 2000) (n := slots + 16000) (by omega) (by omega) ?_
        exact K f H locs m ls hX hI hd (lv_sub hl [4, 5, 6, 7, 8, 9, 10, 11] rfl)
  ·
    refine k_actJ (As := [.ref h, .int (nI 18), .int ((nI p9) - (nI 20)), .int (nI (1 + q9)), .int ((nI r9) - (nI 20)), .int (nI 1)]) (rest := []) (c2 := cells + 8) (s2 := slots + 64) (v := (-7000002)) (m1 := m) C hX (act_18 hI.hd ((nI p9) - (nI 20)) (nI (1 + q9)) ((nI r9) - (nI 20)) (nI 1) (iop_between hst hI ((nI p9) - (nI 20)) (nI (1 + q9)) ((nI r9) - (nI 20)) (nI 1) (nI 1))) (e_between_a hv) (rfl) (gl_same inv_L_act) rfl hl.1 rfl (Nat.le_of_ble_eq_true rfl) dL_law_809 ⟨by omega, by omega⟩ ⟨by omega, by omega⟩ (by omega) (by omega) (fun f H locs hX hI => ?_)
    refine lv_lstore (lv' := [(15, .long (-7000002)), (14, .int ((nI r9) - (nI 20))), (13, .int (nI (1 + q9))), (12, .int ((nI p9) - (nI 20))), (0, .ref b), (1, .ref h), (2, .int (nI m.nd)), (3, .int (nI m.ng)), (4, .int (nI m.nm)), (5, .int (nI m.nc)), (6, .int (nI m.nw)), (7, .int (nI k)), (8, .int (nI x)), (9, .int (nI 7)), (10, .int (nI y)), (11, .int (nI z))]) C.x C.b dL_law_812 hl (by decide) rfl (fun ls hl => ?_)
    refine lv_lload C.x C.b dL_law_814 (lv_at hl 0 rfl) ?_
    refine lv_ldc2 (v := (-7000002)) C.x C.b C.ow (C.ts _ lkC_6) dL_law_816 ?_
    refine k_lcmp_eq (tgt := 864) C.x C.b dL_law_819 dL_law_820 (by decide) (fun _ => ?_) (fun q9 => absurd (by decide) q9)
    refine lv_goto (tgt := 1207) C.x C.b dL_law_864 (by decide) ?_
    refine W.widen (k := cells + 2000) (n := slots + 16000) (by omega) (by omega) ?_
    exact K f H locs m ls hX hI hd (lv_sub hl [4, 5, 6, 7, 8, 9, 10, 11] rfl)
set_option maxHeartbeats 8000000 in
set_option maxRecDepth 100000 in
theorem law_w8 (hst : l.stackTraces = false) (C : kC G B0 p mi c cL_law 18 s args wsL_law RL) (hX : kX G B0 s f H locs) (hR : 400 ≤ R.frames ∧ 24000 ≤ R.locals) (hcl : cells + 2000 ≤ R.cells ∧ slots + 16000 ≤ R.slots) (hI : Inv G h f m) (hd : dInv m) (hx : x < 16777216) (hy : y < 16777216) (hz : z < 16777216) (hl : lv_has ls 18 [(0, .ref b), (1, .ref h), (2, .int (nI m.nd)), (3, .int (nI m.ng)), (4, .int (nI m.nm)), (5, .int (nI m.nc)), (6, .int (nI m.nw)), (7, .int (nI k)), (8, .int (nI x)), (9, .int (nI 8)), (10, .int (nI y)), (11, .int (nI z))])
    (K : ∀ (f1 : kH) (H1 : Heap) (locs1 : List Loc) (m1 : pSt) (ls1 : Array Slot), kX G B0 s f1 H1 locs1 → Inv G h f1 m1 → dInv m1 → lv_has ls1 18 (lwB b h m1 k) → W p l e R s mi args below meth c H1 locs1 (cells + 2000) (slots + 16000) Q (F0 mi 1207 ls1 [])) : W p l e R s mi args below meth c H locs cells slots Q (F0 mi 85 ls []) := by
  obtain ⟨b4, b16, bf, bd, bg, bm, bc2, bc6, bw⟩ := hI.bd
  obtain ⟨p9, hp9, ep9⟩ : ∃ p9, p9 < 41 ∧ y % 41 = p9 := ⟨_, Nat.mod_lt _ (by decide), rfl⟩
  obtain ⟨q9, hq9, eq9⟩ : ∃ q9, q9 < 20 ∧ z % 20 = q9 := ⟨_, Nat.mod_lt _ (by decide), rfl⟩
  obtain ⟨r9, hr9, er9⟩ : ∃ r9, r9 < 41 ∧ z % 41 = r9 := ⟨_, Nat.mod_lt _ (by decide), rfl⟩
  refine lv_iload C.x C.b dL_law_85 (lv_at hl 9 rfl) ?_
  refine lv_iconst (v := (nI 2)) C.x C.b dL_law_87 (by decide) ?_
  refine lv_icmp_ge (tgt := 138) C.x C.b dL_law_88 (by decide) (fun _ => ?_) (fun q9 => absurd (by decide) q9)
  refine lv_iload C.x C.b dL_law_138 (lv_at hl 9 rfl) ?_
  refine lv_iconst (v := (nI 4)) C.x C.b dL_law_140 (by decide) ?_
  refine lv_icmp_ge (tgt := 304) C.x C.b dL_law_141 (by decide) (fun _ => ?_) (fun q9 => absurd (by decide) q9)
  refine lv_iload C.x C.b dL_law_304 (lv_at hl 9 rfl) ?_
  refine lv_bipush (v := (nI 6)) C.x C.b dL_law_306 (by decide) ?_
  refine lv_icmp_ge (tgt := 493) C.x C.b dL_law_308 (by decide) (fun _ => ?_) (fun q9 => absurd (by decide) q9)
  refine lv_iload C.x C.b dL_law_493 (lv_at hl 9 rfl) ?_
  refine lv_bipush (v := (nI 6)) C.x C.b dL_law_495 (by decide) ?_
  refine lv_icmp_ne (tgt := 684) C.x C.b dL_law_497 (by decide) (fun _ => ?_) (fun q9 => absurd q9 (by decide))
  refine lv_iload C.x C.b dL_law_684 (lv_at hl 9 rfl) ?_
  refine lv_bipush (v := (nI 7)) C.x C.b dL_law_686 (by decide) ?_
  refine lv_icmp_ne (tgt := 763) C.x C.b dL_law_688 (by decide) (fun _ => ?_) (fun q9 => absurd q9 (by decide))
  refine lv_iload C.x C.b dL_law_763 (lv_at hl 9 rfl) ?_
  refine lv_bipush (v := (nI 9)) C.x C.b dL_law_765 (by decide) ?_
  refine lv_icmp_ge (tgt := 867) C.x C.b dL_law_767 (by decide) (fun q9 => absurd q9 (by decide)) (fun _ => ?_)
  refine lv_iload C.x C.b dL_law_770 (lv_at hl 10 rfl) ?_
  refine lv_bipush (v := (nI 41)) C.x C.b dL_law_772 (by decide) ?_
  refine lv_irem C.x C.b dL_law_774 (by decide) ?_
  refine k_topi (y := (nI p9)) ((pk_rem (by omega) (by omega) (by omega)).trans (congrArg nI ep9)) ?_
  refine lv_bipush (v := (nI 20)) C.x C.b dL_law_775 (by decide) ?_
  refine lv_isub C.x C.b dL_law_777 ?_
  refine lv_istore (lv' := [(12, .int ((nI p9) - (nI 20))), (0, .ref b), (1, .ref h), (2, .int (nI m.nd)), (3, .int (nI m.ng)), (4, .int (nI m.nm)), (5, .int (nI m.nc)), (6, .int (nI m.nw)), (7, .int (nI k)), (8, .int (nI x)), (9, .int (nI 8)), (10, .int (nI y)), (11, .int (nI z))]) C.x C.b dL_law_778 hl (by decide) rfl (fun ls hl => ?_)
  refine lv_iconst (v := (nI 1)) C.x C.b dL_law_780 (by decide) ?_
  refine lv_iload C.x C.b dL_law_781 (lv_at hl 12 rfl) ?_
  refine lv_bipush (v := (nI 20)) C.x C.b dL_law_783 (by decide) ?_
  refine lv_irem C.x C.b dL_law_785 (by decide) ?_
  refine k_topi (y := (nI q9)) ((pk_rem (by omega) (by omega) (by omega)).trans (congrArg nI eq9)) ?_
  refine lv_iadd C.x C.b dL_law_786 ?_
  refine k_topi (y := (nI (1 + q9))) (nI_add _ _) ?_
  refine lv_istore (lv' := [(13, .int (nI (1 + q9))), (12, .int ((nI p9) - (nI 20))), (0, .ref b), (1, .ref h), (2, .int (nI m.nd)), (3, .int (nI m.ng)), (4, .int (nI m.nm)), (5, .int (nI m.nc)), (6, .int (nI m.nw)), (7, .int (nI k)), (8, .int (nI x)), (9, .int (nI 8)), (10, .int (nI y)), (11, .int (nI z))]) C.x C.b dL_law_787 hl (by decide) rfl (fun ls hl => ?_)
  refine lv_iload C.x C.b dL_law_789 (lv_at hl 13 rfl) ?_
  refine lv_bipush (v := (nI 41)) C.x C.b dL_law_791 (by decide) ?_
  refine lv_irem C.x C.b dL_law_793 (by decide) ?_
  refine k_topi (y := (nI r9)) ((pk_rem (by omega) (by omega) (by omega)).trans (congrArg nI er9)) ?_
  refine lv_bipush (v := (nI 20)) C.x C.b dL_law_794 (by decide) ?_
  refine lv_isub C.x C.b dL_law_796 ?_
  refine lv_istore (lv' := [(14, .int ((nI r9) - (nI 20))), (13, .int (nI (1 + q9))), (12, .int ((nI p9) - (nI 20))), (0, .ref b), (1, .ref h), (2, .int (nI m.nd)), (3, .int (nI m.ng)), (4, .int (nI m.nm)), (5, .int (nI m.nc)), (6, .int (nI m.nw)), (7, .int (nI k)), (8, .int (nI x)), (9, .int (nI 8)), (10, .int (nI y)), (11, .int (nI z))]) C.x C.b dL_law_797 hl (by decide) rfl (fun ls hl => ?_)
  refine lv_aload_n C.x C.b dL_law_799 rfl (lv_at hl 4 rfl) ?_
  refine lv_bipush (v := (nI 18)) C.x C.b dL_law_800 (by decide) ?_
  refine lv_iload C.x C.b dL_law_802 (lv_at hl 2 rfl) ?_
  refine lv_iload C.x C.b dL_law_804 (lv_at hl 1 rfl) ?_
  refine lv_iload C.x C.b dL_law_806 (lv_at hl 0 rfl) ?_
  refine lv_iconst (v := (nI 1)) C.x C.b dL_law_808 (by decide) ?_
  by_cases hv : mFr ((nI p9) - (nI 20)) (nI (1 + q9)) 1 ∧ mFr ((nI r9) - (nI 20)) (nI 1) 1 ∧ ¬ mCross ((nI p9) - (nI 20)) (nI (1 + q9)) ((nI r9) - (nI 20)) (nI 1) = 0
  ·
    obtain ⟨tv, etv⟩ : ∃ tv, c_between m ((nI p9) - (nI 20)) (nI (1 + q9)) ((nI r9) - (nI 20)) (nI 1) (nI 1) = (0, tv, m) := ⟨_, ev_between hv rfl⟩
    refine k_actJ (As := [.ref h, .int (nI 18), .int ((nI p9) - (nI 20)), .int (nI (1 + q9)), .int ((nI r9) - (nI 20)), .int (nI 1)]) (rest := []) (c2 := cells + 8) (s2 := slots + 64) (v := tv) (m1 := m) C hX (act_18 hI.hd ((nI p9) - (nI 20)) (nI (1 + q9)) ((nI r9) - (nI 20)) (nI 1) (iop_between hst hI ((nI p9) - (nI 20)) (nI (1 + q9)) ((nI r9) - (nI 20)) (nI 1) (nI 1))) (etv) (rfl) (gl_same inv_L_act) rfl hl.1 rfl (Nat.le_of_ble_eq_true rfl) dL_law_809 ⟨by omega, by omega⟩ ⟨by omega, by omega⟩ (by omega) (by omega) (fun f H locs hX hI => ?_)
    refine lv_lstore (lv' := [(15, .long tv), (14, .int ((nI r9) - (nI 20))), (13, .int (nI (1 + q9))), (12, .int ((nI p9) - (nI 20))), (0, .ref b), (1, .ref h), (2, .int (nI m.nd)), (3, .int (nI m.ng)), (4, .int (nI m.nm)), (5, .int (nI m.nc)), (6, .int (nI m.nw)), (7, .int (nI k)), (8, .int (nI x)), (9, .int (nI 8)), (10, .int (nI y)), (11, .int (nI z))]) C.x C.b dL_law_812 hl (by decide) rfl (fun ls hl => ?_)
    refine lv_lload C.x C.b dL_law_814 (lv_at hl 0 rfl) ?_
    refine lv_ldc2 (v := (-7000002)) C.x C.b C.ow (C.ts _ lkC_6) dL_law_816 ?_
    by_cases q2 : tv = -7000002
    ·
      refine k_lcmp_eq (tgt := 864) C.x C.b dL_law_819 dL_law_820 (by decide) (fun _ => ?_) (fun q9 => absurd (q2) q9)
      refine lv_goto (tgt := 1207) C.x C.b dL_law_864 (by decide) ?_
      refine W.widen (k := cells + 2000) (n := slots + 16000) (by omega) (by omega) ?_
      exact K f H locs m ls hX hI hd (lv_sub hl [4, 5, 6, 7, 8, 9, 10, 11] rfl)
    ·
      refine k_lcmp_eq (tgt := 864) C.x C.b dL_law_819 dL_law_820 (by decide) (fun q9 => absurd q9 (q2)) (fun _ => ?_)
      refine lv_aload_n C.x C.b dL_law_823 rfl (lv_at hl 5 rfl) ?_
      refine lv_bipush (v := (nI 17)) C.x C.b dL_law_824 (by decide) ?_
      refine lv_iload C.x C.b dL_law_826 (lv_at hl 3 rfl) ?_
      refine lv_iload C.x C.b dL_law_828 (lv_at hl 2 rfl) ?_
      refine lv_iload C.x C.b dL_law_830 (lv_at hl 1 rfl) ?_
      refine lv_iconst (v := (nI 1)) C.x C.b dL_law_832 (by decide) ?_
      refine k_actI (As := [.ref h, .int (nI 17), .int ((nI p9) - (nI 20)), .int (nI (1 + q9)), .int ((nI r9) - (nI 20)), .int (nI 1)]) (rest := []) (c2 := cells + 16) (s2 := slots + 128) (v := (mFord (mCross ((nI p9) - (nI 20)) (nI (1 + q9)) ((nI r9) - (nI 20)) (nI 1))).toInt64) (m1 := m) C hX (act_17 hI.hd ((nI p9) - (nI 20)) (nI (1 + q9)) ((nI r9) - (nI 20)) (nI 1) (iop_ford hst hI ((nI p9) - (nI 20)) (nI (1 + q9)) ((nI r9) - (nI 20)) (nI 1))) (ev_ford ⟨hv.1, hv.2.1⟩ rfl) (rfl) (gl_same inv_L_act) rfl hl.1 rfl (Nat.le_of_ble_eq_true rfl) dL_law_833 ⟨by omega, by omega⟩ ⟨by omega, by omega⟩ (by omega) (by omega) (fun f H locs hX hI => ?_)
      refine lv_lconst (v := 1) C.x C.b dL_law_836 (by decide) ?_
      rcases ford_cs (mCross ((nI p9) - (nI 20)) (nI (1 + q9)) ((nI r9) - (nI 20)) (nI 1)) with qf | qf
      ·
        refine k_lcmp_ne (tgt := 864) C.x C.b dL_law_837 dL_law_838 (by decide) (fun q9 => absurd (by rw [qf]; rfl) q9) (fun _ => ?_)
        refine lv_aload_n C.x C.b dL_law_841 rfl (lv_at hl 5 rfl) ?_
        refine lv_iload C.x C.b dL_law_842 (lv_at hl 3 rfl) ?_
        refine lv_iload C.x C.b dL_law_844 (lv_at hl 2 rfl) ?_
        refine lv_iload C.x C.b dL_law_846 (lv_at hl 1 rfl) ?_
        refine lv_iconst (v := (nI 1)) C.x C.b dL_law_848 (by decide) ?_
        refine lv_iconst (v := (nI 0)) C.x C.b dL_law_849 (by decide) ?_
        refine k_cJ (As := [.int ((nI p9) - (nI 20)), .int (nI (1 + q9)), .int ((nI r9) - (nI 20)), .int (nI 1), .int (nI 0)]) (rest := []) (c2 := cells + 24) (s2 := slots + 192) (v := ((nI (1 + q9)) + (nI 1)).toInt64) (m1 := m) C hX (iop_between hst hI ((nI p9) - (nI 20)) (nI (1 + q9)) ((nI r9) - (nI 20)) (nI 1) (nI 0)) (ev_between hv (btw_ok r9 hr9 q9 hq9 p9 hp9 qf)) hI.hd (gl_same inv_X8_between) rfl ⟨rfl, hdA_X8_between⟩ (by decide) rfl hl.1 rfl (Nat.le_of_ble_eq_true rfl) dL_law_850 ⟨by omega, by omega⟩ ⟨by omega, by omega⟩ (by omega) (by omega) (fun f H locs hX hI => ?_)
        refine lv_iload C.x C.b dL_law_853 (lv_at hl 2 rfl) ?_
        refine lv_iconst (v := (nI 1)) C.x C.b dL_law_855 (by decide) ?_
        refine lv_iadd C.x C.b dL_law_856 ?_
        refine lv_i2l (v := ((nI (1 + q9)) + (nI 1)).toInt64) C.x C.b dL_law_857 rfl ?_
        refine k_lcmp_eq (tgt := 864) C.x C.b dL_law_858 dL_law_859 (by decide) (fun _ => ?_) (fun q9 => absurd (rfl) q9)
        refine lv_goto (tgt := 1207) C.x C.b dL_law_864 (by decide) ?_
        refine W.widen (k := cells + 2000) (n := slots + 16000) (by omega) (by omega) ?_
        exact K f H locs m ls hX hI hd (lv_sub hl [4, 5, 6, 7, 8, 9, 10, 11] rfl)
      ·
        refine k_lcmp_ne (tgt := 864) C.x C.b dL_law_837 dL_law_838 (by decide) (fun _ => ?_) (fun q9 => absurd q9 (qf))
        refine lv_goto (tgt := 1207) C.x C.b dL_law_864 (by decide) ?_
        refine W.widen (k := cells + 2000) (n := slots + 16000) (by omega) (by omega) ?_
        exact K f H locs m ls hX hI hd (lv_sub hl [4, 5, 6, 7, 8, 9, 10, 11] rfl)
  ·
    refine k_actJ (As := [.ref h, .int (nI 18), .int ((nI p9) - (nI 20)), .int (nI (1 + q9)), .int ((nI r9) - (nI 20)), .int (nI 1)]) (rest := []) (c2 := cells + 8) (s2 := slots + 64) (v := (-7000002)) (m1 := m) C hX (act_18 hI.hd ((nI p9) - (nI 20)) (nI (1 + q9)) ((nI r9) - (nI 20)) (nI 1) (iop_between hst hI ((nI p9) - (nI 20)) (nI (1 + q9)) ((nI r9) - (nI 20)) (nI 1) (nI 1))) (e_between_a hv) (rfl) (gl_same inv_L_act) rfl hl.1 rfl (Nat.le_of_ble_eq_true rfl) dL_law_809 ⟨by omega, by omega⟩ ⟨by omega, by omega⟩ (by omega) (by omega) (fun f H locs hX hI => ?_)
    refine lv_lstore (lv' := [(15, .long (-7000002)), (14, .int ((nI r9) - (nI 20))), (13, .int (nI (1 + q9))), (12, .int ((nI p9) - (nI 20))), (0, .ref b), (1, .ref h), (2, .int (nI m.nd)), (3, .int (nI m.ng)), (4, .int (nI m.nm)), (5, .int (nI m.nc)), (6, .int (nI m.nw)), (7, .int (nI k)), (8, .int (nI x)), (9, .int (nI 8)), (10, .int (nI y)), (11, .int (nI z))]) C.x C.b dL_law_812 hl (by decide) rfl (fun ls hl => ?_)
    refine lv_lload C.x C.b dL_law_814 (lv_at hl 0 rfl) ?_
    refine lv_ldc2 (v := (-7000002)) C.x C.b C.ow (C.ts _ lkC_6) dL_law_816 ?_
    refine k_lcmp_eq (tgt := 864) C.x C.b dL_law_819 dL_law_820 (by decide) (fun _ => ?_) (fun q9 => absurd (by decide) q9)
    refine lv_goto (tgt := 1207) C.x C.b dL_law_864 (by decide) ?_
    refine W.widen (k := cells + 2000) (n := slots + 16000) (by omega) (by omega) ?_
    exact K f H locs m ls hX hI hd (lv_sub hl [4, 5, 6, 7, 8, 9, 10, 11] rfl)
set_option maxHeartbeats 8000000 in
set_option maxRecDepth 100000 in
theorem law_w9 (hst : l.stackTraces = false) (C : kC G B0 p mi c cL_law 18 s args wsL_law RL) (hX : kX G B0 s f H locs) (hR : 400 ≤ R.frames ∧ 24000 ≤ R.locals) (hcl : cells + 2000 ≤ R.cells ∧ slots + 16000 ≤ R.slots) (hI : Inv G h f m) (hd : dInv m) (hx : x < 16777216) (hy : y < 16777216) (hz : z < 16777216) (hl : lv_has ls 18 [(0, .ref b), (1, .ref h), (2, .int (nI m.nd)), (3, .int (nI m.ng)), (4, .int (nI m.nm)), (5, .int (nI m.nc)), (6, .int (nI m.nw)), (7, .int (nI k)), (8, .int (nI x)), (9, .int (nI 9)), (10, .int (nI y)), (11, .int (nI z))])
    (K : ∀ (f1 : kH) (H1 : Heap) (locs1 : List Loc) (m1 : pSt) (ls1 : Array Slot), kX G B0 s f1 H1 locs1 → Inv G h f1 m1 → dInv m1 → lv_has ls1 18 (lwB b h m1 k) → W p l e R s mi args below meth c H1 locs1 (cells + 2000) (slots + 16000) Q (F0 mi 1207 ls1 [])) : W p l e R s mi args below meth c H locs cells slots Q (F0 mi 85 ls []) := by
  obtain ⟨b4, b16, bf, bd, bg, bm, bc2, bc6, bw⟩ := hI.bd
  obtain ⟨a, ha, ea⟩ : ∃ a, a < 19 ∧ y % 19 = a := ⟨_, Nat.mod_lt _ (by decide), rfl⟩
  obtain ⟨d, hd2, ed⟩ : ∃ d, d < 5 ∧ z % 5 = d := ⟨_, Nat.mod_lt _ (by decide), rfl⟩
  refine lv_iload C.x C.b dL_law_85 (lv_at hl 9 rfl) ?_
  refine lv_iconst (v := (nI 2)) C.x C.b dL_law_87 (by decide) ?_
  refine lv_icmp_ge (tgt := 138) C.x C.b dL_law_88 (by decide) (fun _ => ?_) (fun q9 => absurd (by decide) q9)
  refine lv_iload C.x C.b dL_law_138 (lv_at hl 9 rfl) ?_
  refine lv_iconst (v := (nI 4)) C.x C.b dL_law_140 (by decide) ?_
  refine lv_icmp_ge (tgt := 304) C.x C.b dL_law_141 (by decide) (fun _ => ?_) (fun q9 => absurd (by decide) q9)
  refine lv_iload C.x C.b dL_law_304 (lv_at hl 9 rfl) ?_
  refine lv_bipush (v := (nI 6)) C.x C.b dL_law_306 (by decide) ?_
  refine lv_icmp_ge (tgt := 493) C.x C.b dL_law_308 (by decide) (fun _ => ?_) (fun q9 => absurd (by decide) q9)
  refine lv_iload C.x C.b dL_law_493 (lv_at hl 9 rfl) ?_
  refine lv_bipush (v := (nI 6)) C.x C.b dL_law_495 (by decide) ?_
  refine lv_icmp_ne (tgt := 684) C.x C.b dL_law_497 (by decide) (fun _ => ?_) (fun q9 => absurd q9 (by decide))
  refine lv_iload C.x C.b dL_law_684 (lv_at hl 9 rfl) ?_
  refine lv_bipush (v := (nI 7)) C.x C.b dL_law_686 (by decide) ?_
  refine lv_icmp_ne (tgt := 763) C.x C.b dL_law_688 (by decide) (fun _ => ?_) (fun q9 => absurd q9 (by decide))
  refine lv_iload C.x C.b dL_law_763 (lv_at hl 9 rfl) ?_
  refine lv_bipush (v := (nI 9)) C.x C.b dL_law_765 (by decide) ?_
  refine lv_icmp_ge (tgt := 867) C.x C.b dL_law_767 (by decide) (fun _ => ?_) (fun q9 => absurd (by decide) q9)
  refine lv_iload C.x C.b dL_law_867 (lv_at hl 9 rfl) ?_
  refine lv_bipush (v := (nI 9)) C.x C.b dL_law_869 (by decide) ?_
  refine lv_icmp_ne (tgt := 945) C.x C.b dL_law_871 (by decide) (fun q9 => absurd (by decide) q9) (fun _ => ?_)
  refine lv_iload C.x C.b dL_law_874 (lv_at hl 10 rfl) ?_
  refine lv_bipush (v := (nI 19)) C.x C.b dL_law_876 (by decide) ?_
  refine lv_irem C.x C.b dL_law_878 (by decide) ?_
  refine k_topi (y := (nI a)) ((pk_rem (by omega) (by omega) (by omega)).trans (congrArg nI ea)) ?_
  refine lv_bipush (v := (nI 9)) C.x C.b dL_law_879 (by decide) ?_
  refine lv_isub C.x C.b dL_law_881 ?_
  refine lv_istore (lv' := [(12, .int ((nI a) - (nI 9))), (0, .ref b), (1, .ref h), (2, .int (nI m.nd)), (3, .int (nI m.ng)), (4, .int (nI m.nm)), (5, .int (nI m.nc)), (6, .int (nI m.nw)), (7, .int (nI k)), (8, .int (nI x)), (9, .int (nI 9)), (10, .int (nI y)), (11, .int (nI z))]) C.x C.b dL_law_882 hl (by decide) rfl (fun ls hl => ?_)
  refine lv_aload_n C.x C.b dL_law_884 rfl (lv_at hl 2 rfl) ?_
  refine lv_bipush (v := (nI 19)) C.x C.b dL_law_885 (by decide) ?_
  refine lv_iload C.x C.b dL_law_887 (lv_at hl 0 rfl) ?_
  refine lv_iload C.x C.b dL_law_889 (lv_at hl 0 rfl) ?_
  refine lv_iload C.x C.b dL_law_891 (lv_at hl 12 rfl) ?_
  refine lv_iconst (v := (nI 5)) C.x C.b dL_law_893 (by decide) ?_
  refine lv_irem C.x C.b dL_law_894 (by decide) ?_
  refine k_topi (y := (nI d)) ((pk_rem (by omega) (by omega) (by omega)).trans (congrArg nI ed)) ?_
  refine lv_imul C.x C.b dL_law_895 ?_
  refine lv_iconst (v := (nI 1)) C.x C.b dL_law_896 (by decide) ?_
  refine lv_isub C.x C.b dL_law_897 ?_
  refine lv_iconst (v := (nI 1)) C.x C.b dL_law_898 (by decide) ?_
  refine lv_iload C.x C.b dL_law_899 (lv_at hl 12 rfl) ?_
  refine lv_iconst (v := (nI 5)) C.x C.b dL_law_901 (by decide) ?_
  refine lv_irem C.x C.b dL_law_902 (by decide) ?_
  refine k_topi (y := (nI d)) ((pk_rem (by omega) (by omega) (by omega)).trans (congrArg nI ed)) ?_
  by_cases q4 : 4 ≤ m.nm
  ·
    refine k_actI (As := [.ref h, .int (nI 19), .int ((nI a) - (nI 9)), .int ((((nI a) - (nI 9)) * (nI d)) - (nI 1)), .int (nI 1), .int (nI d)]) (rest := []) (c2 := cells + 8) (s2 := slots + 64) (v := (-7000003)) (m1 := m) C hX (act_19 hI.hd ((nI a) - (nI 9)) ((((nI a) - (nI 9)) * (nI d)) - (nI 1)) (nI 1) (nI d) (iop_tell hst hI ((nI a) - (nI 9)) ((((nI a) - (nI 9)) * (nI d)) - (nI 1)) (nI 1) (nI d))) (e_tell_s (tl_m a ha d hd2).1 q4) (rfl) (gl_same inv_L_act) rfl hl.1 rfl (Nat.le_of_ble_eq_true rfl) dL_law_903 ⟨by omega, by omega⟩ ⟨by omega, by omega⟩ (by omega) (by omega) (fun f H locs hX hI => ?_)
    refine lv_iload C.x C.b dL_law_906 (lv_at hl 5 rfl) ?_
    refine lv_iconst (v := (nI 4)) C.x C.b dL_law_908 (by decide) ?_
    refine lv_icmp_ge (tgt := 917) C.x C.b dL_law_909 (by decide) (fun _ => ?_) (fun q9 => absurd (nI_le q4 (by omega)) q9)
    refine lv_ldc (v := (-7000003)) C.x C.b C.ow (C.ts _ lkC_3) dL_law_917 ?_
    refine lv_i2l (v := (-7000003).toInt64) C.x C.b dL_law_919 rfl ?_
    refine k_topl (y := (-7000003)) (by decide) ?_
    refine k_lcmp_eq (tgt := 926) C.x C.b dL_law_920 dL_law_921 (by decide) (fun _ => ?_) (fun q9 => absurd (by decide) q9)
    refine lv_iload C.x C.b dL_law_926 (lv_at hl 5 rfl) ?_
    refine lv_iload C.x C.b dL_law_928 (lv_at hl 5 rfl) ?_
    refine lv_iconst (v := (nI 4)) C.x C.b dL_law_930 (by decide) ?_
    refine lv_icmp_ge (tgt := 938) C.x C.b dL_law_931 (by decide) (fun _ => ?_) (fun q9 => absurd (nI_le q4 (by omega)) q9)
    refine lv_iconst (v := (nI 0)) C.x C.b dL_law_938 (by decide) ?_
    refine lv_iadd C.x C.b dL_law_939 ?_
    refine k_topi (y := (nI m.nm)) (nI_add _ 0) ?_
    refine lv_istore (lv' := [(4, .int (nI m.nm)), (12, .int ((nI a) - (nI 9))), (0, .ref b), (1, .ref h), (2, .int (nI m.nd)), (3, .int (nI m.ng)), (5, .int (nI m.nc)), (6, .int (nI m.nw)), (7, .int (nI k)), (8, .int (nI x)), (9, .int (nI 9)), (10, .int (nI y)), (11, .int (nI z))]) C.x C.b dL_law_940 hl (by decide) rfl (fun ls hl => ?_)
    refine lv_goto (tgt := 1207) C.x C.b dL_law_942 (by decide) ?_
    refine W.widen (k := cells + 2000) (n := slots + 16000) (by omega) (by omega) ?_
    exact K f H locs m ls hX hI hd (lv_sub hl [2, 3, 4, 5, 0, 6, 7, 8] rfl)
  ·
    refine k_actI (As := [.ref h, .int (nI 19), .int ((nI a) - (nI 9)), .int ((((nI a) - (nI 9)) * (nI d)) - (nI 1)), .int (nI 1), .int (nI d)]) (rest := []) (c2 := cells + 8) (s2 := slots + 64) (v := (nI m.nm).toInt64) (m1 := (pMk m.cc m.fc m.nd m.ng (m.nm + 1) m.nc m.nw m.fa m.dx m.dy m.dr m.fo m.ro (pB19 m.mv m.nm ((nI a) - (nI 9)).toInt64 ((((nI a) - (nI 9)) * (nI d)) - (nI 1)).toInt64 (nI 1).toInt64 (nI d).toInt64) m.pr m.ea m.eb)) C hX (act_19 hI.hd ((nI a) - (nI 9)) ((((nI a) - (nI 9)) * (nI d)) - (nI 1)) (nI 1) (nI d) (iop_tell hst hI ((nI a) - (nI 9)) ((((nI a) - (nI 9)) * (nI d)) - (nI 1)) (nI 1) (nI d))) (ev_tell m.nm (tl_m a ha d hd2).1 q4 rfl rfl) (rfl) (gl_same inv_L_act) rfl hl.1 rfl (Nat.le_of_ble_eq_true rfl) dL_law_903 ⟨by omega, by omega⟩ ⟨by omega, by omega⟩ (by omega) (by omega) (fun f H locs hX hI => ?_)
    refine lv_iload C.x C.b dL_law_906 (lv_at hl 5 rfl) ?_
    refine lv_iconst (v := (nI 4)) C.x C.b dL_law_908 (by decide) ?_
    refine lv_icmp_ge (tgt := 917) C.x C.b dL_law_909 (by decide) (fun q9 => absurd q9 (nI_ge (by omega) (by decide))) (fun _ => ?_)
    refine lv_iload C.x C.b dL_law_912 (lv_at hl 5 rfl) ?_
    refine lv_goto (tgt := 919) C.x C.b dL_law_914 (by decide) ?_
    refine lv_i2l (v := (nI m.nm).toInt64) C.x C.b dL_law_919 rfl ?_
    refine k_lcmp_eq (tgt := 926) C.x C.b dL_law_920 dL_law_921 (by decide) (fun _ => ?_) (fun q9 => absurd (rfl) q9)
    refine lv_iload C.x C.b dL_law_926 (lv_at hl 5 rfl) ?_
    refine lv_iload C.x C.b dL_law_928 (lv_at hl 5 rfl) ?_
    refine lv_iconst (v := (nI 4)) C.x C.b dL_law_930 (by decide) ?_
    refine lv_icmp_ge (tgt := 938) C.x C.b dL_law_931 (by decide) (fun q9 => absurd q9 (nI_ge (by omega) (by decide))) (fun _ => ?_)
    refine lv_iconst (v := (nI 1)) C.x C.b dL_law_934 (by decide) ?_
    refine lv_goto (tgt := 939) C.x C.b dL_law_935 (by decide) ?_
    refine lv_iadd C.x C.b dL_law_939 ?_
    refine k_topi (y := (nI (m.nm + 1))) (nI_add _ _) ?_
    refine lv_istore (lv' := [(4, .int (nI (m.nm + 1))), (12, .int ((nI a) - (nI 9))), (0, .ref b), (1, .ref h), (2, .int (nI m.nd)), (3, .int (nI m.ng)), (5, .int (nI m.nc)), (6, .int (nI m.nw)), (7, .int (nI k)), (8, .int (nI x)), (9, .int (nI 9)), (10, .int (nI y)), (11, .int (nI z))]) C.x C.b dL_law_940 hl (by decide) rfl (fun ls hl => ?_)
    refine lv_goto (tgt := 1207) C.x C.b dL_law_942 (by decide) ?_
    refine W.widen (k := cells + 2000) (n := slots + 16000) (by omega) (by omega) ?_
    exact K f H locs (pMk m.cc m.fc m.nd m.ng (m.nm + 1) m.nc m.nw m.fa m.dx m.dy m.dr m.fo m.ro (pB19 m.mv m.nm ((nI a) - (nI 9)).toInt64 ((((nI a) - (nI 9)) * (nI d)) - (nI 1)).toInt64 (nI 1).toInt64 (nI d).toInt64) m.pr m.ea m.eb) ls hX hI (dInv_tell hd (tl_m a ha d hd2).2) (lv_sub hl [2, 3, 4, 5, 0, 6, 7, 8] rfl)
end LW3
