/-! the law's cases 20 to 29 -/
section KLC2
variable {p : Program} {l : Launch} {e : Env} {R : Room} {s : State} {m : MethodId} {args : Array Value} {below : List Frame} {meth : Method} {c : Code} {H : Heap} {locs : List Loc} {cells slots : Nat} {Q : State → Prop}
variable {ls : Array Slot} {G : kG} {B0 h hm po pd b L i : Nat} {f : kH} {xs : Nat → Int32} {m0 : mSt}
set_option maxHeartbeats 2000000 in
theorem law_c20 (hst : l.stackTraces = false) (C : kC G B0 p m c cL_law 9 s args wsL_law RL) (hX : kX G B0 s f H locs) (hXs : va_X b L xs s s.heap) (hbl : b < s.heap.size) (hbA : ¬ kAb B0 b) (hL : L ≤ 3072) (hi : i + 6 ≤ L) (hR : 302 ≤ R.frames ∧ 21000 ≤ R.locals) (hcl : cells + 1000 ≤ R.cells ∧ slots + 14000 ≤ R.slots) (hI : Inv G h hm po pd f m0) (hl : lv_has ls 9 (lwL b h hm po pd i))
    (K : ∀ (f1 : kH) (H1 : Heap) (locs1 : List Loc) (m1 : mSt) (ls1 : Array Slot), kX G B0 s f1 H1 locs1 → Inv G h hm po pd f1 m1 → lv_has ls1 9 (lwL b h hm po pd i) → W p l e R s m args below meth c H1 locs1 (cells + 1000) (slots + 14000) Q (F0 m 2173 ls1 [])) : W p l e R s m args below meth c H locs cells slots Q (F0 m 1603 ls []) := by
  obtain ⟨o9, c9, hI⟩ := hI
  refine lv_aload_n C.x C.b dL_law_1603 rfl (lv_at hl 1 rfl) ?_
  obtain ⟨k, rm, mc, ms, Φ, hk, ⟨q1, q2, q3, q4, q5, q6⟩, hLm, hN⟩ := op_tell (l := l) (B0 := B0) hst hI (xs (i + 1)) (xs (i + 2)) (xs (i + 3)) (xs (i + 4))
  refine k_arg C hX hXs hbl hbA hL (i := i) 1 (by omega) (lv_at hl 0 rfl) (lv_at hl 5 rfl) (by rfl) (by decide) dL_law_1604 dL_law_1605 dL_law_1607 dL_law_1608 dL_law_1609 ?_
  refine k_arg C hX hXs hbl hbA hL (i := i) 2 (by omega) (lv_at hl 0 rfl) (lv_at hl 5 rfl) (by rfl) (by decide) dL_law_1610 dL_law_1611 dL_law_1613 dL_law_1614 dL_law_1615 ?_
  refine k_arg C hX hXs hbl hbA hL (i := i) 3 (by omega) (lv_at hl 0 rfl) (lv_at hl 5 rfl) (by rfl) (by decide) dL_law_1616 dL_law_1617 dL_law_1619 dL_law_1620 dL_law_1621 ?_
  refine k_arg C hX hXs hbl hbA hL (i := i) 4 (by omega) (lv_at hl 0 rfl) (lv_at hl 5 rfl) (by rfl) (by decide) dL_law_1622 dL_law_1623 dL_law_1625 dL_law_1626 dL_law_1627 ?_
  refine lv_aload_n C.x C.b dL_law_1628 rfl (lv_at hl 3 rfl) ?_
  refine k_callX (vx_runSX (As := [.ref h, .int (xs (i + 1)), .int (xs (i + 2)), .int (xs (i + 3)), .int (xs (i + 4)), .ref po]) (rest := []) C.1 hLm (vx_cwSW 6 C.ts gL_law_L_tell rfl q1 q2 hdW_L_tell ⟨by omega, by show 8 + (7 + 11) + rm.locals ≤ R.locals; omega⟩) (k_preS C hX) rfl rfl hl.1 rfl (lv_room (Nat.le_of_ble_eq_true rfl)) dL_law_1629 ⟨by omega, by omega⟩) hX (fun r9 f2 H locs hp2 hX => ?_)
  obtain ⟨hr9, hp2⟩ := hp2
  subst hr9
  obtain ⟨rm2, mc2, ms2, Ψ, ⟨w1, w2, w3, w4, w5, w6⟩, hMm, ⟨m9, hm9⟩, hE⟩ := hN f2 hp2
  refine lv_istore (lv' := [(6, .int (nI k)), (0, .ref b), (1, .ref h), (2, .ref hm), (3, .ref po), (4, .ref pd), (5, .int (nI i))]) C.x C.b dL_law_1632 hl (by decide) rfl (fun ls hl => ?_)
  refine lv_aload_n C.x C.b dL_law_1634 rfl (lv_at hl 3 rfl) ?_
  refine k_arg C hX hXs hbl hbA hL (i := i) 1 (by omega) (lv_at hl 1 rfl) (lv_at hl 6 rfl) (by rfl) (by decide) dL_law_1635 dL_law_1636 dL_law_1638 dL_law_1639 dL_law_1640 ?_
  refine k_arg C hX hXs hbl hbA hL (i := i) 2 (by omega) (lv_at hl 1 rfl) (lv_at hl 6 rfl) (by rfl) (by decide) dL_law_1641 dL_law_1642 dL_law_1644 dL_law_1645 dL_law_1646 ?_
  refine k_arg C hX hXs hbl hbA hL (i := i) 3 (by omega) (lv_at hl 1 rfl) (lv_at hl 6 rfl) (by rfl) (by decide) dL_law_1647 dL_law_1648 dL_law_1650 dL_law_1651 dL_law_1652 ?_
  refine k_arg C hX hXs hbl hbA hL (i := i) 4 (by omega) (lv_at hl 1 rfl) (lv_at hl 6 rfl) (by rfl) (by decide) dL_law_1653 dL_law_1654 dL_law_1656 dL_law_1657 dL_law_1658 ?_
  refine k_calli (va_runV (As := [.int (xs (i + 1)), .int (xs (i + 2)), .int (xs (i + 3)), .int (xs (i + 4))]) (rest := []) C.1 hMm (cwV 4 C.ts gL_law_X9_tell rfl w1 w2 ⟨rfl, hdW_X9_tell⟩ ⟨by omega, by show 8 + (6 + 11) + rm2.locals ≤ R.locals; omega⟩) (k_preV C hX (hm9.at 0 rfl) rfl) rfl rfl hl.1 rfl (lv_room (Nat.le_of_ble_eq_true rfl)) dL_law_1659 ⟨by omega, by omega⟩) hX (fun r f3 H locs hp3 hX => ?_)
  obtain ⟨m2, hI3, h27, hE0⟩ := hE r f3 hp3
  obtain ⟨o3, c3, hJ3⟩ := id hI3
  refine lv_istore (lv' := [(7, .int r), (6, .int (nI k)), (0, .ref b), (1, .ref h), (2, .ref hm), (3, .ref po), (4, .ref pd), (5, .int (nI i))]) C.x C.b dL_law_1662 hl (by decide) rfl (fun ls hl => ?_)
  refine k_thr (tgt := 1692) C hX hJ3.mC h27 hk hl.1 (lv_at hl 4 rfl) (lv_at hl 1 rfl) hR ⟨by omega, by omega⟩ (by rfl) (by decide) dL_law_1664 dL_law_1665 dL_law_1668 dL_law_1670 dL_law_1675 dL_law_1677 (fun k9 H locs hX => ?_) (fun H locs hX => ?_)
  · obtain ⟨g9, hg1, hg2⟩ := hE0 k9
    refine k_cmpI C hX hg1 hg2 (lv_at hl 5 rfl) (lv_at hl 0 rfl) (by rfl) dL_law_1680 dL_law_1681 dL_law_1682 dL_law_1683 dL_law_1685 dL_law_1686 dL_law_1687 ?_
    refine lv_goto (tgt := 2173) C.x C.b dL_law_1692 (by decide) ?_
    refine W.widen (k := cells + 1000) (n := slots + 14000) (by omega) (by omega) ?_
    exact K f3 _ _ m2 ls hX hI3 (lv_sub hl [2, 3, 4, 5, 6, 7] rfl)
  · refine lv_goto (tgt := 2173) C.x C.b dL_law_1692 (by decide) ?_
    refine W.widen (k := cells + 1000) (n := slots + 14000) (by omega) (by omega) ?_
    exact K f3 _ _ m2 ls hX hI3 (lv_sub hl [2, 3, 4, 5, 6, 7] rfl)
set_option maxHeartbeats 2000000 in
theorem law_c21 (hst : l.stackTraces = false) (C : kC G B0 p m c cL_law 9 s args wsL_law RL) (hX : kX G B0 s f H locs) (hXs : va_X b L xs s s.heap) (hbl : b < s.heap.size) (hbA : ¬ kAb B0 b) (hL : L ≤ 3072) (hi : i + 6 ≤ L) (hR : 302 ≤ R.frames ∧ 21000 ≤ R.locals) (hcl : cells + 1000 ≤ R.cells ∧ slots + 14000 ≤ R.slots) (hI : Inv G h hm po pd f m0) (hl : lv_has ls 9 (lwL b h hm po pd i))
    (K : ∀ (f1 : kH) (H1 : Heap) (locs1 : List Loc) (m1 : mSt) (ls1 : Array Slot), kX G B0 s f1 H1 locs1 → Inv G h hm po pd f1 m1 → lv_has ls1 9 (lwL b h hm po pd i) → W p l e R s m args below meth c H1 locs1 (cells + 1000) (slots + 14000) Q (F0 m 2173 ls1 [])) : W p l e R s m args below meth c H locs cells slots Q (F0 m 1695 ls []) := by
  obtain ⟨o9, c9, hI⟩ := hI
  refine lv_aload_n C.x C.b dL_law_1695 rfl (lv_at hl 1 rfl) ?_
  obtain ⟨k, rm, mc, ms, Φ, hk, ⟨q1, q2, q3, q4, q5, q6⟩, hLm, hN⟩ := op_append (l := l) (B0 := B0) hst hI (xs (i + 1)) (kbI (¬ xs (i + 2) = 0)) (kbI_n01 _)
  refine k_arg C hX hXs hbl hbA hL (i := i) 1 (by omega) (lv_at hl 0 rfl) (lv_at hl 5 rfl) (by rfl) (by decide) dL_law_1696 dL_law_1697 dL_law_1699 dL_law_1700 dL_law_1701 ?_
  refine k_argB C hX hXs hbl hbA hL (i := i) 2 (by omega) (lv_at hl 0 rfl) (lv_at hl 5 rfl) (by rfl) (by decide) dL_law_1702 dL_law_1703 dL_law_1705 dL_law_1706 dL_law_1707 dL_law_1708 dL_law_1711 dL_law_1712 dL_law_1715 ?_
  refine lv_aload_n C.x C.b dL_law_1716 rfl (lv_at hl 3 rfl) ?_
  refine k_callX (vx_runSX (As := [.ref h, .int (xs (i + 1)), .int (kbI (¬ xs (i + 2) = 0)), .ref po]) (rest := []) C.1 hLm (vx_cwSW 4 C.ts gL_law_L_append rfl q1 q2 hdW_L_append ⟨by omega, by show 8 + (5 + 11) + rm.locals ≤ R.locals; omega⟩) (k_preS C hX) rfl rfl hl.1 rfl (lv_room (Nat.le_of_ble_eq_true rfl)) dL_law_1717 ⟨by omega, by omega⟩) hX (fun r9 f2 H locs hp2 hX => ?_)
  obtain ⟨hr9, hp2⟩ := hp2
  subst hr9
  obtain ⟨rm2, mc2, ms2, Ψ, ⟨w1, w2, w3, w4, w5, w6⟩, hMm, ⟨m9, hm9⟩, hE⟩ := hN f2 hp2
  refine lv_istore (lv' := [(6, .int (nI k)), (0, .ref b), (1, .ref h), (2, .ref hm), (3, .ref po), (4, .ref pd), (5, .int (nI i))]) C.x C.b dL_law_1720 hl (by decide) rfl (fun ls hl => ?_)
  refine lv_aload_n C.x C.b dL_law_1722 rfl (lv_at hl 3 rfl) ?_
  refine k_arg C hX hXs hbl hbA hL (i := i) 1 (by omega) (lv_at hl 1 rfl) (lv_at hl 6 rfl) (by rfl) (by decide) dL_law_1723 dL_law_1724 dL_law_1726 dL_law_1727 dL_law_1728 ?_
  refine k_argB C hX hXs hbl hbA hL (i := i) 2 (by omega) (lv_at hl 1 rfl) (lv_at hl 6 rfl) (by rfl) (by decide) dL_law_1729 dL_law_1730 dL_law_1732 dL_law_1733 dL_law_1734 dL_law_1735 dL_law_1738 dL_law_1739 dL_law_1742 ?_
  refine k_calli (va_runV (As := [.int (xs (i + 1)), .int (kbI (¬ xs (i + 2) = 0))]) (rest := []) C.1 hMm (cwV 2 C.ts gL_law_X9_append rfl w1 w2 ⟨rfl, hdW_X9_append⟩ ⟨by omega, by show 8 + (14 + 11) + rm2.locals ≤ R.locals; omega⟩) (k_preV C hX (hm9.at 0 rfl) rfl) rfl rfl hl.1 rfl (lv_room (Nat.le_of_ble_eq_true rfl)) dL_law_1743 ⟨by omega, by omega⟩) hX (fun r f3 H locs hp3 hX => ?_)
  obtain ⟨m2, hI3, h27, hE0⟩ := hE r f3 hp3
  obtain ⟨o3, c3, hJ3⟩ := id hI3
  refine lv_istore (lv' := [(7, .int r), (6, .int (nI k)), (0, .ref b), (1, .ref h), (2, .ref hm), (3, .ref po), (4, .ref pd), (5, .int (nI i))]) C.x C.b dL_law_1746 hl (by decide) rfl (fun ls hl => ?_)
  refine k_thr (tgt := 1776) C hX hJ3.mC h27 hk hl.1 (lv_at hl 4 rfl) (lv_at hl 1 rfl) hR ⟨by omega, by omega⟩ (by rfl) (by decide) dL_law_1748 dL_law_1749 dL_law_1752 dL_law_1754 dL_law_1759 dL_law_1761 (fun k9 H locs hX => ?_) (fun H locs hX => ?_)
  · obtain ⟨g9, hg1, hg2⟩ := hE0 k9
    refine k_cmpI C hX hg1 hg2 (lv_at hl 5 rfl) (lv_at hl 0 rfl) (by rfl) dL_law_1764 dL_law_1765 dL_law_1766 dL_law_1767 dL_law_1769 dL_law_1770 dL_law_1771 ?_
    refine lv_goto (tgt := 2173) C.x C.b dL_law_1776 (by decide) ?_
    refine W.widen (k := cells + 1000) (n := slots + 14000) (by omega) (by omega) ?_
    exact K f3 _ _ m2 ls hX hI3 (lv_sub hl [2, 3, 4, 5, 6, 7] rfl)
  · refine lv_goto (tgt := 2173) C.x C.b dL_law_1776 (by decide) ?_
    refine W.widen (k := cells + 1000) (n := slots + 14000) (by omega) (by omega) ?_
    exact K f3 _ _ m2 ls hX hI3 (lv_sub hl [2, 3, 4, 5, 6, 7] rfl)
set_option maxHeartbeats 2000000 in
theorem law_c22 (hst : l.stackTraces = false) (C : kC G B0 p m c cL_law 9 s args wsL_law RL) (hX : kX G B0 s f H locs) (hXs : va_X b L xs s s.heap) (hbl : b < s.heap.size) (hbA : ¬ kAb B0 b) (hL : L ≤ 3072) (hi : i + 6 ≤ L) (hR : 302 ≤ R.frames ∧ 21000 ≤ R.locals) (hcl : cells + 1000 ≤ R.cells ∧ slots + 14000 ≤ R.slots) (hI : Inv G h hm po pd f m0) (hl : lv_has ls 9 (lwL b h hm po pd i))
    (K : ∀ (f1 : kH) (H1 : Heap) (locs1 : List Loc) (m1 : mSt) (ls1 : Array Slot), kX G B0 s f1 H1 locs1 → Inv G h hm po pd f1 m1 → lv_has ls1 9 (lwL b h hm po pd i) → W p l e R s m args below meth c H1 locs1 (cells + 1000) (slots + 14000) Q (F0 m 2173 ls1 [])) : W p l e R s m args below meth c H locs cells slots Q (F0 m 1779 ls []) := by
  obtain ⟨o9, c9, hI⟩ := hI
  obtain ⟨rm, mc, ms, Φ, ⟨q1, q2, q3, q4, q5, q6⟩, hLm, hN⟩ := op_home (l := l) (B0 := B0) hI
  refine lv_aload_n C.x C.b dL_law_1779 rfl (lv_at hl 1 rfl) ?_
  refine k_calli (va_runV (As := []) (rest := []) C.1 hLm (cwV 0 C.ts gL_law_X8_home rfl q1 q2 ⟨rfl, hdW_X8_home⟩ ⟨by omega, by show 8 + (2 + 11) + rm.locals ≤ R.locals; omega⟩) (k_preV C hX hI.hd rfl) rfl rfl hl.1 rfl (lv_room (Nat.le_of_ble_eq_true rfl)) dL_law_1780 ⟨by omega, by omega⟩) hX (fun v f2 H locs hp2 hX => ?_)
  obtain ⟨rm2, mc2, ms2, Ψ, ⟨w1, w2, w3, w4, w5, w6⟩, hMm, ⟨m9, hm9⟩, hE⟩ := hN v f2 hp2
  refine lv_aload_n C.x C.b dL_law_1783 rfl (lv_at hl 2 rfl) ?_
  refine k_calli (va_runV (As := []) (rest := [.int v]) C.1 hMm (cwV 0 C.ts gL_law_X9_home rfl w1 w2 ⟨rfl, hdW_X9_home⟩ ⟨by omega, by show 8 + (3 + 11) + rm2.locals ≤ R.locals; omega⟩) (k_preV C hX (hm9.at 0 rfl) rfl) rfl rfl hl.1 rfl (lv_room (Nat.le_of_ble_eq_true rfl)) dL_law_1784 ⟨by omega, by omega⟩) hX (fun r f3 H locs hp3 hX => ?_)
  obtain ⟨hv, m2, hI3⟩ := hE r f3 hp3
  refine lv_icmp_eq (tgt := 2173) C.x C.b dL_law_1787 (by decide) (fun _ => ?_) (fun q => absurd hv.symm q)
  refine W.widen (k := cells + 1000) (n := slots + 14000) (by omega) (by omega) ?_
  exact K f3 H locs m2 ls hX hI3 hl
set_option maxHeartbeats 2000000 in
theorem law_c23 (hst : l.stackTraces = false) (C : kC G B0 p m c cL_law 9 s args wsL_law RL) (hX : kX G B0 s f H locs) (hXs : va_X b L xs s s.heap) (hbl : b < s.heap.size) (hbA : ¬ kAb B0 b) (hL : L ≤ 3072) (hi : i + 6 ≤ L) (hR : 302 ≤ R.frames ∧ 21000 ≤ R.locals) (hcl : cells + 1000 ≤ R.cells ∧ slots + 14000 ≤ R.slots) (hI : Inv G h hm po pd f m0) (hl : lv_has ls 9 (lwL b h hm po pd i))
    (K : ∀ (f1 : kH) (H1 : Heap) (locs1 : List Loc) (m1 : mSt) (ls1 : Array Slot), kX G B0 s f1 H1 locs1 → Inv G h hm po pd f1 m1 → lv_has ls1 9 (lwL b h hm po pd i) → W p l e R s m args below meth c H1 locs1 (cells + 1000) (slots + 14000) Q (F0 m 2173 ls1 [])) : W p l e R s m args below meth c H locs cells slots Q (F0 m 1792 ls []) := by
  obtain ⟨o9, c9, hI⟩ := hI
  refine lv_aload_n C.x C.b dL_law_1792 rfl (lv_at hl 1 rfl) ?_
  obtain ⟨k, rm, mc, ms, Φ, hk, ⟨q1, q2, q3, q4, q5, q6⟩, hLm, hN⟩ := op_word (l := l) (B0 := B0) hst hI (xs (i + 1))
  refine k_arg C hX hXs hbl hbA hL (i := i) 1 (by omega) (lv_at hl 0 rfl) (lv_at hl 5 rfl) (by rfl) (by decide) dL_law_1793 dL_law_1794 dL_law_1796 dL_law_1797 dL_law_1798 ?_
  refine lv_aload_n C.x C.b dL_law_1799 rfl (lv_at hl 3 rfl) ?_
  refine k_callX (vx_runSX (As := [.ref h, .int (xs (i + 1)), .ref po]) (rest := []) C.1 hLm (vx_cwSW 3 C.ts gL_law_L_word rfl q1 q2 hdW_L_word ⟨by omega, by show 8 + (4 + 11) + rm.locals ≤ R.locals; omega⟩) (k_preS C hX) rfl rfl hl.1 rfl (lv_room (Nat.le_of_ble_eq_true rfl)) dL_law_1800 ⟨by omega, by omega⟩) hX (fun r9 f2 H locs hp2 hX => ?_)
  obtain ⟨hr9, hp2⟩ := hp2
  subst hr9
  obtain ⟨rm2, mc2, ms2, Ψ, ⟨w1, w2, w3, w4, w5, w6⟩, hMm, ⟨m9, hm9⟩, hE⟩ := hN f2 hp2
  refine lv_istore (lv' := [(6, .int (nI k)), (0, .ref b), (1, .ref h), (2, .ref hm), (3, .ref po), (4, .ref pd), (5, .int (nI i))]) C.x C.b dL_law_1803 hl (by decide) rfl (fun ls hl => ?_)
  refine lv_aload_n C.x C.b dL_law_1805 rfl (lv_at hl 3 rfl) ?_
  refine k_arg C hX hXs hbl hbA hL (i := i) 1 (by omega) (lv_at hl 1 rfl) (lv_at hl 6 rfl) (by rfl) (by decide) dL_law_1806 dL_law_1807 dL_law_1809 dL_law_1810 dL_law_1811 ?_
  refine k_calli (va_runV (As := [.int (xs (i + 1))]) (rest := []) C.1 hMm (cwV 1 C.ts gL_law_X9_word rfl w1 w2 ⟨rfl, hdW_X9_word⟩ ⟨by omega, by show 8 + (6 + 11) + rm2.locals ≤ R.locals; omega⟩) (k_preV C hX (hm9.at 0 rfl) rfl) rfl rfl hl.1 rfl (lv_room (Nat.le_of_ble_eq_true rfl)) dL_law_1812 ⟨by omega, by omega⟩) hX (fun r f3 H locs hp3 hX => ?_)
  obtain ⟨m2, hI3, h27, hE0⟩ := hE r f3 hp3
  obtain ⟨o3, c3, hJ3⟩ := id hI3
  refine lv_istore (lv' := [(7, .int r), (6, .int (nI k)), (0, .ref b), (1, .ref h), (2, .ref hm), (3, .ref po), (4, .ref pd), (5, .int (nI i))]) C.x C.b dL_law_1815 hl (by decide) rfl (fun ls hl => ?_)
  refine k_thr (tgt := 1845) C hX hJ3.mC h27 hk hl.1 (lv_at hl 4 rfl) (lv_at hl 1 rfl) hR ⟨by omega, by omega⟩ (by rfl) (by decide) dL_law_1817 dL_law_1818 dL_law_1821 dL_law_1823 dL_law_1828 dL_law_1830 (fun k9 H locs hX => ?_) (fun H locs hX => ?_)
  · obtain ⟨g9, hg1, hg2⟩ := hE0 k9
    refine k_cmpI C hX hg1 hg2 (lv_at hl 5 rfl) (lv_at hl 0 rfl) (by rfl) dL_law_1833 dL_law_1834 dL_law_1835 dL_law_1836 dL_law_1838 dL_law_1839 dL_law_1840 ?_
    refine lv_goto (tgt := 2173) C.x C.b dL_law_1845 (by decide) ?_
    refine W.widen (k := cells + 1000) (n := slots + 14000) (by omega) (by omega) ?_
    exact K f3 _ _ m2 ls hX hI3 (lv_sub hl [2, 3, 4, 5, 6, 7] rfl)
  · refine lv_goto (tgt := 2173) C.x C.b dL_law_1845 (by decide) ?_
    refine W.widen (k := cells + 1000) (n := slots + 14000) (by omega) (by omega) ?_
    exact K f3 _ _ m2 ls hX hI3 (lv_sub hl [2, 3, 4, 5, 6, 7] rfl)
set_option maxHeartbeats 2000000 in
theorem law_c24 (hst : l.stackTraces = false) (C : kC G B0 p m c cL_law 9 s args wsL_law RL) (hX : kX G B0 s f H locs) (hXs : va_X b L xs s s.heap) (hbl : b < s.heap.size) (hbA : ¬ kAb B0 b) (hL : L ≤ 3072) (hi : i + 6 ≤ L) (hR : 302 ≤ R.frames ∧ 21000 ≤ R.locals) (hcl : cells + 1000 ≤ R.cells ∧ slots + 14000 ≤ R.slots) (hI : Inv G h hm po pd f m0) (hl : lv_has ls 9 (lwL b h hm po pd i))
    (K : ∀ (f1 : kH) (H1 : Heap) (locs1 : List Loc) (m1 : mSt) (ls1 : Array Slot), kX G B0 s f1 H1 locs1 → Inv G h hm po pd f1 m1 → lv_has ls1 9 (lwL b h hm po pd i) → W p l e R s m args below meth c H1 locs1 (cells + 1000) (slots + 14000) Q (F0 m 2173 ls1 [])) : W p l e R s m args below meth c H locs cells slots Q (F0 m 1848 ls []) := by
  obtain ⟨o9, c9, hI⟩ := hI
  refine lv_aload_n C.x C.b dL_law_1848 rfl (lv_at hl 1 rfl) ?_
  obtain ⟨k, rm, mc, ms, Φ, hk, ⟨q1, q2, q3, q4, q5, q6⟩, hLm, hN⟩ := op_image (l := l) (B0 := B0) hst hI (xs (i + 1)) (xs (i + 2)) (kbI (¬ xs (i + 3) = 0)) (kbI_n01 _)
  refine k_arg C hX hXs hbl hbA hL (i := i) 1 (by omega) (lv_at hl 0 rfl) (lv_at hl 5 rfl) (by rfl) (by decide) dL_law_1849 dL_law_1850 dL_law_1852 dL_law_1853 dL_law_1854 ?_
  refine k_arg C hX hXs hbl hbA hL (i := i) 2 (by omega) (lv_at hl 0 rfl) (lv_at hl 5 rfl) (by rfl) (by decide) dL_law_1855 dL_law_1856 dL_law_1858 dL_law_1859 dL_law_1860 ?_
  refine k_argB C hX hXs hbl hbA hL (i := i) 3 (by omega) (lv_at hl 0 rfl) (lv_at hl 5 rfl) (by rfl) (by decide) dL_law_1861 dL_law_1862 dL_law_1864 dL_law_1865 dL_law_1866 dL_law_1867 dL_law_1870 dL_law_1871 dL_law_1874 ?_
  refine lv_aload_n C.x C.b dL_law_1875 rfl (lv_at hl 3 rfl) ?_
  refine k_callX (vx_runSX (As := [.ref h, .int (xs (i + 1)), .int (xs (i + 2)), .int (kbI (¬ xs (i + 3) = 0)), .ref po]) (rest := []) C.1 hLm (vx_cwSW 5 C.ts gL_law_L_image rfl q1 q2 hdW_L_image ⟨by omega, by show 8 + (6 + 11) + rm.locals ≤ R.locals; omega⟩) (k_preS C hX) rfl rfl hl.1 rfl (lv_room (Nat.le_of_ble_eq_true rfl)) dL_law_1876 ⟨by omega, by omega⟩) hX (fun r9 f2 H locs hp2 hX => ?_)
  obtain ⟨hr9, hp2⟩ := hp2
  subst hr9
  obtain ⟨rm2, mc2, ms2, Ψ, ⟨w1, w2, w3, w4, w5, w6⟩, hMm, ⟨m9, hm9⟩, hE⟩ := hN f2 hp2
  refine lv_istore (lv' := [(6, .int (nI k)), (0, .ref b), (1, .ref h), (2, .ref hm), (3, .ref po), (4, .ref pd), (5, .int (nI i))]) C.x C.b dL_law_1879 hl (by decide) rfl (fun ls hl => ?_)
  refine lv_aload_n C.x C.b dL_law_1881 rfl (lv_at hl 3 rfl) ?_
  refine k_arg C hX hXs hbl hbA hL (i := i) 1 (by omega) (lv_at hl 1 rfl) (lv_at hl 6 rfl) (by rfl) (by decide) dL_law_1882 dL_law_1883 dL_law_1885 dL_law_1886 dL_law_1887 ?_
  refine k_arg C hX hXs hbl hbA hL (i := i) 2 (by omega) (lv_at hl 1 rfl) (lv_at hl 6 rfl) (by rfl) (by decide) dL_law_1888 dL_law_1889 dL_law_1891 dL_law_1892 dL_law_1893 ?_
  refine k_argB C hX hXs hbl hbA hL (i := i) 3 (by omega) (lv_at hl 1 rfl) (lv_at hl 6 rfl) (by rfl) (by decide) dL_law_1894 dL_law_1895 dL_law_1897 dL_law_1898 dL_law_1899 dL_law_1900 dL_law_1903 dL_law_1904 dL_law_1907 ?_
  refine k_calll (va_runV (As := [.int (xs (i + 1)), .int (xs (i + 2)), .int (kbI (¬ xs (i + 3) = 0))]) (rest := []) C.1 hMm (cwV 3 C.ts gL_law_X9_image rfl w1 w2 ⟨rfl, hdW_X9_image⟩ ⟨by omega, by show 8 + (9 + 11) + rm2.locals ≤ R.locals; omega⟩) (k_preV C hX (hm9.at 0 rfl) rfl) rfl rfl hl.1 rfl (lv_room (Nat.le_of_ble_eq_true rfl)) dL_law_1908 ⟨by omega, by omega⟩) hX (fun r f3 H locs hp3 hX => ?_)
  obtain ⟨m2, hI3, h27, hE0⟩ := hE r f3 hp3
  obtain ⟨o3, c3, hJ3⟩ := id hI3
  refine lv_lstore (lv' := [(7, .long r), (6, .int (nI k)), (0, .ref b), (1, .ref h), (2, .ref hm), (3, .ref po), (4, .ref pd), (5, .int (nI i))]) C.x C.b dL_law_1911 hl (by decide) rfl (fun ls hl => ?_)
  refine k_thr (tgt := 1940) C hX hJ3.mC h27 hk hl.1 (lv_at hl 4 rfl) (lv_at hl 1 rfl) hR ⟨by omega, by omega⟩ (by rfl) (by decide) dL_law_1913 dL_law_1914 dL_law_1917 dL_law_1919 dL_law_1924 dL_law_1926 (fun k9 H locs hX => ?_) (fun H locs hX => ?_)
  · obtain ⟨g9, hg1, hg2⟩ := hE0 k9
    refine k_cmpL C hX hg1 hg2 (lv_at hl 5 rfl) (lv_at hl 0 rfl) (by rfl) dL_law_1929 dL_law_1930 dL_law_1931 dL_law_1932 dL_law_1934 dL_law_1935 ?_
    refine lv_goto (tgt := 2173) C.x C.b dL_law_1940 (by decide) ?_
    refine W.widen (k := cells + 1000) (n := slots + 14000) (by omega) (by omega) ?_
    exact K f3 _ _ m2 ls hX hI3 (lv_sub hl [2, 3, 4, 5, 6, 7] rfl)
  · refine lv_goto (tgt := 2173) C.x C.b dL_law_1940 (by decide) ?_
    refine W.widen (k := cells + 1000) (n := slots + 14000) (by omega) (by omega) ?_
    exact K f3 _ _ m2 ls hX hI3 (lv_sub hl [2, 3, 4, 5, 6, 7] rfl)
set_option maxHeartbeats 2000000 in
theorem law_c25 (hst : l.stackTraces = false) (C : kC G B0 p m c cL_law 9 s args wsL_law RL) (hX : kX G B0 s f H locs) (hXs : va_X b L xs s s.heap) (hbl : b < s.heap.size) (hbA : ¬ kAb B0 b) (hL : L ≤ 3072) (hi : i + 6 ≤ L) (hR : 302 ≤ R.frames ∧ 21000 ≤ R.locals) (hcl : cells + 1000 ≤ R.cells ∧ slots + 14000 ≤ R.slots) (hI : Inv G h hm po pd f m0) (hl : lv_has ls 9 (lwL b h hm po pd i))
    (K : ∀ (f1 : kH) (H1 : Heap) (locs1 : List Loc) (m1 : mSt) (ls1 : Array Slot), kX G B0 s f1 H1 locs1 → Inv G h hm po pd f1 m1 → lv_has ls1 9 (lwL b h hm po pd i) → W p l e R s m args below meth c H1 locs1 (cells + 1000) (slots + 14000) Q (F0 m 2173 ls1 [])) : W p l e R s m args below meth c H locs cells slots Q (F0 m 1943 ls []) := by
  obtain ⟨o9, c9, hI⟩ := hI
  refine lv_aload_n C.x C.b dL_law_1943 rfl (lv_at hl 1 rfl) ?_
  obtain ⟨k, rm, mc, ms, Φ, hk, ⟨q1, q2, q3, q4, q5, q6⟩, hLm, hN⟩ := op_nodes (l := l) (B0 := B0) hst hI (xs (i + 1))
  refine k_arg C hX hXs hbl hbA hL (i := i) 1 (by omega) (lv_at hl 0 rfl) (lv_at hl 5 rfl) (by rfl) (by decide) dL_law_1944 dL_law_1945 dL_law_1947 dL_law_1948 dL_law_1949 ?_
  refine lv_aload_n C.x C.b dL_law_1950 rfl (lv_at hl 3 rfl) ?_
  refine k_callX (vx_runSX (As := [.ref h, .int (xs (i + 1)), .ref po]) (rest := []) C.1 hLm (vx_cwSW 3 C.ts gL_law_L_nodes rfl q1 q2 hdW_L_nodes ⟨by omega, by show 8 + (4 + 11) + rm.locals ≤ R.locals; omega⟩) (k_preS C hX) rfl rfl hl.1 rfl (lv_room (Nat.le_of_ble_eq_true rfl)) dL_law_1951 ⟨by omega, by omega⟩) hX (fun r9 f2 H locs hp2 hX => ?_)
  obtain ⟨hr9, hp2⟩ := hp2
  subst hr9
  obtain ⟨rm2, mc2, ms2, Ψ, ⟨w1, w2, w3, w4, w5, w6⟩, hMm, ⟨m9, hm9⟩, hE⟩ := hN f2 hp2
  refine lv_istore (lv' := [(6, .int (nI k)), (0, .ref b), (1, .ref h), (2, .ref hm), (3, .ref po), (4, .ref pd), (5, .int (nI i))]) C.x C.b dL_law_1954 hl (by decide) rfl (fun ls hl => ?_)
  refine lv_aload_n C.x C.b dL_law_1956 rfl (lv_at hl 3 rfl) ?_
  refine k_arg C hX hXs hbl hbA hL (i := i) 1 (by omega) (lv_at hl 1 rfl) (lv_at hl 6 rfl) (by rfl) (by decide) dL_law_1957 dL_law_1958 dL_law_1960 dL_law_1961 dL_law_1962 ?_
  refine k_calli (va_runV (As := [.int (xs (i + 1))]) (rest := []) C.1 hMm (cwV 1 C.ts gL_law_X9_nodes rfl w1 w2 ⟨rfl, hdW_X9_nodes⟩ ⟨by omega, by show 8 + (3 + 11) + rm2.locals ≤ R.locals; omega⟩) (k_preV C hX (hm9.at 0 rfl) rfl) rfl rfl hl.1 rfl (lv_room (Nat.le_of_ble_eq_true rfl)) dL_law_1963 ⟨by omega, by omega⟩) hX (fun r f3 H locs hp3 hX => ?_)
  obtain ⟨m2, hI3, h27, hE0⟩ := hE r f3 hp3
  obtain ⟨o3, c3, hJ3⟩ := id hI3
  refine lv_istore (lv' := [(7, .int r), (6, .int (nI k)), (0, .ref b), (1, .ref h), (2, .ref hm), (3, .ref po), (4, .ref pd), (5, .int (nI i))]) C.x C.b dL_law_1966 hl (by decide) rfl (fun ls hl => ?_)
  refine k_thr (tgt := 1996) C hX hJ3.mC h27 hk hl.1 (lv_at hl 4 rfl) (lv_at hl 1 rfl) hR ⟨by omega, by omega⟩ (by rfl) (by decide) dL_law_1968 dL_law_1969 dL_law_1972 dL_law_1974 dL_law_1979 dL_law_1981 (fun k9 H locs hX => ?_) (fun H locs hX => ?_)
  · obtain ⟨g9, hg1, hg2⟩ := hE0 k9
    refine k_cmpI C hX hg1 hg2 (lv_at hl 5 rfl) (lv_at hl 0 rfl) (by rfl) dL_law_1984 dL_law_1985 dL_law_1986 dL_law_1987 dL_law_1989 dL_law_1990 dL_law_1991 ?_
    refine lv_goto (tgt := 2173) C.x C.b dL_law_1996 (by decide) ?_
    refine W.widen (k := cells + 1000) (n := slots + 14000) (by omega) (by omega) ?_
    exact K f3 _ _ m2 ls hX hI3 (lv_sub hl [2, 3, 4, 5, 6, 7] rfl)
  · refine lv_goto (tgt := 2173) C.x C.b dL_law_1996 (by decide) ?_
    refine W.widen (k := cells + 1000) (n := slots + 14000) (by omega) (by omega) ?_
    exact K f3 _ _ m2 ls hX hI3 (lv_sub hl [2, 3, 4, 5, 6, 7] rfl)
set_option maxHeartbeats 2000000 in
theorem law_c26 (hst : l.stackTraces = false) (C : kC G B0 p m c cL_law 9 s args wsL_law RL) (hX : kX G B0 s f H locs) (hXs : va_X b L xs s s.heap) (hbl : b < s.heap.size) (hbA : ¬ kAb B0 b) (hL : L ≤ 3072) (hi : i + 6 ≤ L) (hR : 302 ≤ R.frames ∧ 21000 ≤ R.locals) (hcl : cells + 1000 ≤ R.cells ∧ slots + 14000 ≤ R.slots) (hI : Inv G h hm po pd f m0) (hl : lv_has ls 9 (lwL b h hm po pd i))
    (K : ∀ (f1 : kH) (H1 : Heap) (locs1 : List Loc) (m1 : mSt) (ls1 : Array Slot), kX G B0 s f1 H1 locs1 → Inv G h hm po pd f1 m1 → lv_has ls1 9 (lwL b h hm po pd i) → W p l e R s m args below meth c H1 locs1 (cells + 1000) (slots + 14000) Q (F0 m 2173 ls1 [])) : W p l e R s m args below meth c H locs cells slots Q (F0 m 1999 ls []) := by
  obtain ⟨o9, c9, hI⟩ := hI
  refine lv_aload_n C.x C.b dL_law_1999 rfl (lv_at hl 1 rfl) ?_
  obtain ⟨k, rm, mc, ms, Φ, hk, ⟨q1, q2, q3, q4, q5, q6⟩, hLm, hN⟩ := op_wire (l := l) (B0 := B0) hst hI (xs (i + 1)) (xs (i + 2))
  refine k_arg C hX hXs hbl hbA hL (i := i) 1 (by omega) (lv_at hl 0 rfl) (lv_at hl 5 rfl) (by rfl) (by decide) dL_law_2000 dL_law_2001 dL_law_2003 dL_law_2004 dL_law_2005 ?_
  refine k_arg C hX hXs hbl hbA hL (i := i) 2 (by omega) (lv_at hl 0 rfl) (lv_at hl 5 rfl) (by rfl) (by decide) dL_law_2006 dL_law_2007 dL_law_2009 dL_law_2010 dL_law_2011 ?_
  refine lv_aload_n C.x C.b dL_law_2012 rfl (lv_at hl 3 rfl) ?_
  refine k_callX (vx_runSX (As := [.ref h, .int (xs (i + 1)), .int (xs (i + 2)), .ref po]) (rest := []) C.1 hLm (vx_cwSW 4 C.ts gL_law_L_wire rfl q1 q2 hdW_L_wire ⟨by omega, by show 8 + (5 + 11) + rm.locals ≤ R.locals; omega⟩) (k_preS C hX) rfl rfl hl.1 rfl (lv_room (Nat.le_of_ble_eq_true rfl)) dL_law_2013 ⟨by omega, by omega⟩) hX (fun r9 f2 H locs hp2 hX => ?_)
  obtain ⟨hr9, hp2⟩ := hp2
  subst hr9
  obtain ⟨rm2, mc2, ms2, Ψ, ⟨w1, w2, w3, w4, w5, w6⟩, hMm, ⟨m9, hm9⟩, hE⟩ := hN f2 hp2
  refine lv_istore (lv' := [(6, .int (nI k)), (0, .ref b), (1, .ref h), (2, .ref hm), (3, .ref po), (4, .ref pd), (5, .int (nI i))]) C.x C.b dL_law_2016 hl (by decide) rfl (fun ls hl => ?_)
  refine lv_aload_n C.x C.b dL_law_2018 rfl (lv_at hl 3 rfl) ?_
  refine k_arg C hX hXs hbl hbA hL (i := i) 1 (by omega) (lv_at hl 1 rfl) (lv_at hl 6 rfl) (by rfl) (by decide) dL_law_2019 dL_law_2020 dL_law_2022 dL_law_2023 dL_law_2024 ?_
  refine k_arg C hX hXs hbl hbA hL (i := i) 2 (by omega) (lv_at hl 1 rfl) (lv_at hl 6 rfl) (by rfl) (by decide) dL_law_2025 dL_law_2026 dL_law_2028 dL_law_2029 dL_law_2030 ?_
  refine k_calli (va_runV (As := [.int (xs (i + 1)), .int (xs (i + 2))]) (rest := []) C.1 hMm (cwV 2 C.ts gL_law_X9_wire rfl w1 w2 ⟨rfl, hdW_X9_wire⟩ ⟨by omega, by show 8 + (3 + 11) + rm2.locals ≤ R.locals; omega⟩) (k_preV C hX (hm9.at 0 rfl) rfl) rfl rfl hl.1 rfl (lv_room (Nat.le_of_ble_eq_true rfl)) dL_law_2031 ⟨by omega, by omega⟩) hX (fun r f3 H locs hp3 hX => ?_)
  obtain ⟨m2, hI3, h27, hE0⟩ := hE r f3 hp3
  obtain ⟨o3, c3, hJ3⟩ := id hI3
  refine lv_istore (lv' := [(7, .int r), (6, .int (nI k)), (0, .ref b), (1, .ref h), (2, .ref hm), (3, .ref po), (4, .ref pd), (5, .int (nI i))]) C.x C.b dL_law_2034 hl (by decide) rfl (fun ls hl => ?_)
  refine k_thr (tgt := 2064) C hX hJ3.mC h27 hk hl.1 (lv_at hl 4 rfl) (lv_at hl 1 rfl) hR ⟨by omega, by omega⟩ (by rfl) (by decide) dL_law_2036 dL_law_2037 dL_law_2040 dL_law_2042 dL_law_2047 dL_law_2049 (fun k9 H locs hX => ?_) (fun H locs hX => ?_)
  · obtain ⟨g9, hg1, hg2⟩ := hE0 k9
    refine k_cmpI C hX hg1 hg2 (lv_at hl 5 rfl) (lv_at hl 0 rfl) (by rfl) dL_law_2052 dL_law_2053 dL_law_2054 dL_law_2055 dL_law_2057 dL_law_2058 dL_law_2059 ?_
    refine lv_goto (tgt := 2173) C.x C.b dL_law_2064 (by decide) ?_
    refine W.widen (k := cells + 1000) (n := slots + 14000) (by omega) (by omega) ?_
    exact K f3 _ _ m2 ls hX hI3 (lv_sub hl [2, 3, 4, 5, 6, 7] rfl)
  · refine lv_goto (tgt := 2173) C.x C.b dL_law_2064 (by decide) ?_
    refine W.widen (k := cells + 1000) (n := slots + 14000) (by omega) (by omega) ?_
    exact K f3 _ _ m2 ls hX hI3 (lv_sub hl [2, 3, 4, 5, 6, 7] rfl)
set_option maxHeartbeats 2000000 in
theorem law_c27 (hst : l.stackTraces = false) (C : kC G B0 p m c cL_law 9 s args wsL_law RL) (hX : kX G B0 s f H locs) (hXs : va_X b L xs s s.heap) (hbl : b < s.heap.size) (hbA : ¬ kAb B0 b) (hL : L ≤ 3072) (hi : i + 6 ≤ L) (hR : 302 ≤ R.frames ∧ 21000 ≤ R.locals) (hcl : cells + 1000 ≤ R.cells ∧ slots + 14000 ≤ R.slots) (hI : Inv G h hm po pd f m0) (hl : lv_has ls 9 (lwL b h hm po pd i))
    (K : ∀ (f1 : kH) (H1 : Heap) (locs1 : List Loc) (m1 : mSt) (ls1 : Array Slot), kX G B0 s f1 H1 locs1 → Inv G h hm po pd f1 m1 → lv_has ls1 9 (lwL b h hm po pd i) → W p l e R s m args below meth c H1 locs1 (cells + 1000) (slots + 14000) Q (F0 m 2173 ls1 [])) : W p l e R s m args below meth c H locs cells slots Q (F0 m 2067 ls []) := by
  obtain ⟨o9, c9, hI⟩ := hI
  obtain ⟨rm, mc, ms, Φ, ⟨q1, q2, q3, q4, q5, q6⟩, hLm, hN⟩ := op_trees (l := l) (B0 := B0) hI
  refine lv_aload_n C.x C.b dL_law_2067 rfl (lv_at hl 1 rfl) ?_
  refine k_calli (va_runV (As := []) (rest := []) C.1 hLm (cwV 0 C.ts gL_law_X8_trees rfl q1 q2 ⟨rfl, hdW_X8_trees⟩ ⟨by omega, by show 8 + (1 + 11) + rm.locals ≤ R.locals; omega⟩) (k_preV C hX hI.hd rfl) rfl rfl hl.1 rfl (lv_room (Nat.le_of_ble_eq_true rfl)) dL_law_2068 ⟨by omega, by omega⟩) hX (fun v f2 H locs hp2 hX => ?_)
  obtain ⟨rm2, mc2, ms2, Ψ, ⟨w1, w2, w3, w4, w5, w6⟩, hMm, ⟨m9, hm9⟩, hE⟩ := hN v f2 hp2
  refine lv_aload_n C.x C.b dL_law_2071 rfl (lv_at hl 2 rfl) ?_
  refine k_calli (va_runV (As := []) (rest := [.int v]) C.1 hMm (cwV 0 C.ts gL_law_X9_trees rfl w1 w2 ⟨rfl, hdW_X9_trees⟩ ⟨by omega, by show 8 + (1 + 11) + rm2.locals ≤ R.locals; omega⟩) (k_preV C hX (hm9.at 0 rfl) rfl) rfl rfl hl.1 rfl (lv_room (Nat.le_of_ble_eq_true rfl)) dL_law_2072 ⟨by omega, by omega⟩) hX (fun r f3 H locs hp3 hX => ?_)
  obtain ⟨hv, m2, hI3⟩ := hE r f3 hp3
  refine lv_icmp_eq (tgt := 2173) C.x C.b dL_law_2075 (by decide) (fun _ => ?_) (fun q => absurd hv.symm q)
  refine W.widen (k := cells + 1000) (n := slots + 14000) (by omega) (by omega) ?_
  exact K f3 H locs m2 ls hX hI3 hl
set_option maxHeartbeats 2000000 in
theorem law_c28 (hst : l.stackTraces = false) (C : kC G B0 p m c cL_law 9 s args wsL_law RL) (hX : kX G B0 s f H locs) (hXs : va_X b L xs s s.heap) (hbl : b < s.heap.size) (hbA : ¬ kAb B0 b) (hL : L ≤ 3072) (hi : i + 6 ≤ L) (hR : 302 ≤ R.frames ∧ 21000 ≤ R.locals) (hcl : cells + 1000 ≤ R.cells ∧ slots + 14000 ≤ R.slots) (hI : Inv G h hm po pd f m0) (hl : lv_has ls 9 (lwL b h hm po pd i))
    (K : ∀ (f1 : kH) (H1 : Heap) (locs1 : List Loc) (m1 : mSt) (ls1 : Array Slot), kX G B0 s f1 H1 locs1 → Inv G h hm po pd f1 m1 → lv_has ls1 9 (lwL b h hm po pd i) → W p l e R s m args below meth c H1 locs1 (cells + 1000) (slots + 14000) Q (F0 m 2173 ls1 [])) : W p l e R s m args below meth c H locs cells slots Q (F0 m 2080 ls []) := by
  obtain ⟨o9, c9, hI⟩ := hI
  obtain ⟨rm, mc, ms, Φ, ⟨q1, q2, q3, q4, q5, q6⟩, hLm, hN⟩ := op_treesAnew (l := l) (B0 := B0) hI
  refine lv_aload_n C.x C.b dL_law_2080 rfl (lv_at hl 1 rfl) ?_
  refine k_calli (va_runV (As := []) (rest := []) C.1 hLm (cwV 0 C.ts gL_law_X8_treesAnew rfl q1 q2 ⟨rfl, hdW_X8_treesAnew⟩ ⟨by omega, by show 8 + (1 + 11) + rm.locals ≤ R.locals; omega⟩) (k_preV C hX hI.hd rfl) rfl rfl hl.1 rfl (lv_room (Nat.le_of_ble_eq_true rfl)) dL_law_2081 ⟨by omega, by omega⟩) hX (fun v f2 H locs hp2 hX => ?_)
  obtain ⟨rm2, mc2, ms2, Ψ, ⟨w1, w2, w3, w4, w5, w6⟩, hMm, ⟨m9, hm9⟩, hE⟩ := hN v f2 hp2
  refine lv_aload_n C.x C.b dL_law_2084 rfl (lv_at hl 2 rfl) ?_
  refine k_calli (va_runV (As := []) (rest := [.int v]) C.1 hMm (cwV 0 C.ts gL_law_X9_treesAnew rfl w1 w2 ⟨rfl, hdW_X9_treesAnew⟩ ⟨by omega, by show 8 + (1 + 11) + rm2.locals ≤ R.locals; omega⟩) (k_preV C hX (hm9.at 0 rfl) rfl) rfl rfl hl.1 rfl (lv_room (Nat.le_of_ble_eq_true rfl)) dL_law_2085 ⟨by omega, by omega⟩) hX (fun r f3 H locs hp3 hX => ?_)
  obtain ⟨hv, m2, hI3⟩ := hE r f3 hp3
  refine lv_icmp_eq (tgt := 2173) C.x C.b dL_law_2088 (by decide) (fun _ => ?_) (fun q => absurd hv.symm q)
  refine W.widen (k := cells + 1000) (n := slots + 14000) (by omega) (by omega) ?_
  exact K f3 H locs m2 ls hX hI3 hl
set_option maxHeartbeats 2000000 in
theorem law_c29 (hst : l.stackTraces = false) (C : kC G B0 p m c cL_law 9 s args wsL_law RL) (hX : kX G B0 s f H locs) (hXs : va_X b L xs s s.heap) (hbl : b < s.heap.size) (hbA : ¬ kAb B0 b) (hL : L ≤ 3072) (hi : i + 6 ≤ L) (hR : 302 ≤ R.frames ∧ 21000 ≤ R.locals) (hcl : cells + 1000 ≤ R.cells ∧ slots + 14000 ≤ R.slots) (hI : Inv G h hm po pd f m0) (hl : lv_has ls 9 (lwL b h hm po pd i))
    (K : ∀ (f1 : kH) (H1 : Heap) (locs1 : List Loc) (m1 : mSt) (ls1 : Array Slot), kX G B0 s f1 H1 locs1 → Inv G h hm po pd f1 m1 → lv_has ls1 9 (lwL b h hm po pd i) → W p l e R s m args below meth c H1 locs1 (cells + 1000) (slots + 14000) Q (F0 m 2173 ls1 [])) : W p l e R s m args below meth c H locs cells slots Q (F0 m 2093 ls []) := by
  obtain ⟨o9, c9, hI⟩ := hI
  refine lv_aload_n C.x C.b dL_law_2093 rfl (lv_at hl 1 rfl) ?_
  obtain ⟨k, rm, mc, ms, Φ, hk, ⟨q1, q2, q3, q4, q5, q6⟩, hLm, hN⟩ := op_side (l := l) (B0 := B0) hst hI (xs (i + 1)) (xs (i + 2)) (xs (i + 3))
  refine k_arg C hX hXs hbl hbA hL (i := i) 1 (by omega) (lv_at hl 0 rfl) (lv_at hl 5 rfl) (by rfl) (by decide) dL_law_2094 dL_law_2095 dL_law_2097 dL_law_2098 dL_law_2099 ?_
  refine k_arg C hX hXs hbl hbA hL (i := i) 2 (by omega) (lv_at hl 0 rfl) (lv_at hl 5 rfl) (by rfl) (by decide) dL_law_2100 dL_law_2101 dL_law_2103 dL_law_2104 dL_law_2105 ?_
  refine k_arg C hX hXs hbl hbA hL (i := i) 3 (by omega) (lv_at hl 0 rfl) (lv_at hl 5 rfl) (by rfl) (by decide) dL_law_2106 dL_law_2107 dL_law_2109 dL_law_2110 dL_law_2111 ?_
  refine lv_aload_n C.x C.b dL_law_2112 rfl (lv_at hl 3 rfl) ?_
  refine k_callX (vx_runSX (As := [.ref h, .int (xs (i + 1)), .int (xs (i + 2)), .int (xs (i + 3)), .ref po]) (rest := []) C.1 hLm (vx_cwSW 5 C.ts gL_law_L_side rfl q1 q2 hdW_L_side ⟨by omega, by show 8 + (6 + 11) + rm.locals ≤ R.locals; omega⟩) (k_preS C hX) rfl rfl hl.1 rfl (lv_room (Nat.le_of_ble_eq_true rfl)) dL_law_2113 ⟨by omega, by omega⟩) hX (fun r9 f2 H locs hp2 hX => ?_)
  obtain ⟨hr9, hp2⟩ := hp2
  subst hr9
  obtain ⟨rm2, mc2, ms2, Ψ, ⟨w1, w2, w3, w4, w5, w6⟩, hMm, ⟨m9, hm9⟩, hE⟩ := hN f2 hp2
  refine lv_istore (lv' := [(6, .int (nI k)), (0, .ref b), (1, .ref h), (2, .ref hm), (3, .ref po), (4, .ref pd), (5, .int (nI i))]) C.x C.b dL_law_2116 hl (by decide) rfl (fun ls hl => ?_)
  refine lv_aload_n C.x C.b dL_law_2118 rfl (lv_at hl 3 rfl) ?_
  refine k_arg C hX hXs hbl hbA hL (i := i) 1 (by omega) (lv_at hl 1 rfl) (lv_at hl 6 rfl) (by rfl) (by decide) dL_law_2119 dL_law_2120 dL_law_2122 dL_law_2123 dL_law_2124 ?_
  refine k_arg C hX hXs hbl hbA hL (i := i) 2 (by omega) (lv_at hl 1 rfl) (lv_at hl 6 rfl) (by rfl) (by decide) dL_law_2125 dL_law_2126 dL_law_2128 dL_law_2129 dL_law_2130 ?_
  refine k_arg C hX hXs hbl hbA hL (i := i) 3 (by omega) (lv_at hl 1 rfl) (lv_at hl 6 rfl) (by rfl) (by decide) dL_law_2131 dL_law_2132 dL_law_2134 dL_law_2135 dL_law_2136 ?_
  refine k_calli (va_runV (As := [.int (xs (i + 1)), .int (xs (i + 2)), .int (xs (i + 3))]) (rest := []) C.1 hMm (cwV 3 C.ts gL_law_X9_side rfl w1 w2 ⟨rfl, hdW_X9_side⟩ ⟨by omega, by show 8 + (5 + 11) + rm2.locals ≤ R.locals; omega⟩) (k_preV C hX (hm9.at 0 rfl) rfl) rfl rfl hl.1 rfl (lv_room (Nat.le_of_ble_eq_true rfl)) dL_law_2137 ⟨by omega, by omega⟩) hX (fun r f3 H locs hp3 hX => ?_)
  obtain ⟨m2, hI3, h27, hE0⟩ := hE r f3 hp3
  obtain ⟨o3, c3, hJ3⟩ := id hI3
  refine lv_istore (lv' := [(7, .int r), (6, .int (nI k)), (0, .ref b), (1, .ref h), (2, .ref hm), (3, .ref po), (4, .ref pd), (5, .int (nI i))]) C.x C.b dL_law_2140 hl (by decide) rfl (fun ls hl => ?_)
  refine k_thr (tgt := 2170) C hX hJ3.mC h27 hk hl.1 (lv_at hl 4 rfl) (lv_at hl 1 rfl) hR ⟨by omega, by omega⟩ (by rfl) (by decide) dL_law_2142 dL_law_2143 dL_law_2146 dL_law_2148 dL_law_2153 dL_law_2155 (fun k9 H locs hX => ?_) (fun H locs hX => ?_)
  · obtain ⟨g9, hg1, hg2⟩ := hE0 k9
    refine k_cmpI C hX hg1 hg2 (lv_at hl 5 rfl) (lv_at hl 0 rfl) (by rfl) dL_law_2158 dL_law_2159 dL_law_2160 dL_law_2161 dL_law_2163 dL_law_2164 dL_law_2165 ?_
    refine lv_goto (tgt := 2173) C.x C.b dL_law_2170 (by decide) ?_
    refine W.widen (k := cells + 1000) (n := slots + 14000) (by omega) (by omega) ?_
    exact K f3 _ _ m2 ls hX hI3 (lv_sub hl [2, 3, 4, 5, 6, 7] rfl)
  · refine lv_goto (tgt := 2173) C.x C.b dL_law_2170 (by decide) ?_
    refine W.widen (k := cells + 1000) (n := slots + 14000) (by omega) (by omega) ?_
    exact K f3 _ _ m2 ls hX hI3 (lv_sub hl [2, 3, 4, 5, 6, 7] rfl)
end KLC2
