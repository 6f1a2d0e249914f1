/-! the law's cases 10 to 19 -/
section KLC1
variable {p : Program} {l : Launch} {e : Env} {R : Room} {s : State} {m : MethodId} {args : Array Value} {below : List Frame} {meth : Method} {c : Code} {H : Heap} {locs : List Loc} {cells slots : Nat} {Q : State → Prop}
variable {ls : Array Slot} {G : kG} {B0 h hm po pd b L i : Nat} {f : kH} {xs : Nat → Int32} {m0 : mSt}
set_option maxHeartbeats 2000000 in
theorem law_c10 (hst : l.stackTraces = false) (C : kC G B0 p m c cL_law 9 s args wsL_law RL) (hX : kX G B0 s f H locs) (hXs : va_X b L xs s s.heap) (hbl : b < s.heap.size) (hbA : ¬ kAb B0 b) (hL : L ≤ 3072) (hi : i + 6 ≤ L) (hR : 302 ≤ R.frames ∧ 21000 ≤ R.locals) (hcl : cells + 1000 ≤ R.cells ∧ slots + 14000 ≤ R.slots) (hI : Inv G h hm po pd f m0) (hl : lv_has ls 9 (lwL b h hm po pd i))
    (K : ∀ (f1 : kH) (H1 : Heap) (locs1 : List Loc) (m1 : mSt) (ls1 : Array Slot), kX G B0 s f1 H1 locs1 → Inv G h hm po pd f1 m1 → lv_has ls1 9 (lwL b h hm po pd i) → W p l e R s m args below meth c H1 locs1 (cells + 1000) (slots + 14000) Q (F0 m 2173 ls1 [])) : W p l e R s m args below meth c H locs cells slots Q (F0 m 805 ls []) := by
  obtain ⟨o9, c9, hI⟩ := hI
  refine lv_aload_n C.x C.b dL_law_805 rfl (lv_at hl 1 rfl) ?_
  obtain ⟨k, rm, mc, ms, Φ, hk, ⟨q1, q2, q3, q4, q5, q6⟩, hLm, hN⟩ := op_gasket (l := l) (B0 := B0) hst hI (xs (i + 1)) (xs (i + 2)) (xs (i + 3)) (xs (i + 4))
  refine k_arg C hX hXs hbl hbA hL (i := i) 1 (by omega) (lv_at hl 0 rfl) (lv_at hl 5 rfl) (by rfl) (by decide) dL_law_806 dL_law_807 dL_law_809 dL_law_810 dL_law_811 ?_
  refine k_arg C hX hXs hbl hbA hL (i := i) 2 (by omega) (lv_at hl 0 rfl) (lv_at hl 5 rfl) (by rfl) (by decide) dL_law_812 dL_law_813 dL_law_815 dL_law_816 dL_law_817 ?_
  refine k_arg C hX hXs hbl hbA hL (i := i) 3 (by omega) (lv_at hl 0 rfl) (lv_at hl 5 rfl) (by rfl) (by decide) dL_law_818 dL_law_819 dL_law_821 dL_law_822 dL_law_823 ?_
  refine k_arg C hX hXs hbl hbA hL (i := i) 4 (by omega) (lv_at hl 0 rfl) (lv_at hl 5 rfl) (by rfl) (by decide) dL_law_824 dL_law_825 dL_law_827 dL_law_828 dL_law_829 ?_
  refine lv_aload_n C.x C.b dL_law_830 rfl (lv_at hl 3 rfl) ?_
  refine k_callX (vx_runSX (As := [.ref h, .int (xs (i + 1)), .int (xs (i + 2)), .int (xs (i + 3)), .int (xs (i + 4)), .ref po]) (rest := []) C.1 hLm (vx_cwSW 6 C.ts gL_law_L_gasket rfl q1 q2 hdW_L_gasket ⟨by omega, by show 8 + (7 + 11) + rm.locals ≤ R.locals; omega⟩) (k_preS C hX) rfl rfl hl.1 rfl (lv_room (Nat.le_of_ble_eq_true rfl)) dL_law_831 ⟨by omega, by omega⟩) hX (fun r9 f2 H locs hp2 hX => ?_)
  obtain ⟨hr9, hp2⟩ := hp2
  subst hr9
  obtain ⟨rm2, mc2, ms2, Ψ, ⟨w1, w2, w3, w4, w5, w6⟩, hMm, ⟨m9, hm9⟩, hE⟩ := hN f2 hp2
  refine lv_istore (lv' := [(6, .int (nI k)), (0, .ref b), (1, .ref h), (2, .ref hm), (3, .ref po), (4, .ref pd), (5, .int (nI i))]) C.x C.b dL_law_834 hl (by decide) rfl (fun ls hl => ?_)
  refine lv_aload_n C.x C.b dL_law_836 rfl (lv_at hl 3 rfl) ?_
  refine k_arg C hX hXs hbl hbA hL (i := i) 1 (by omega) (lv_at hl 1 rfl) (lv_at hl 6 rfl) (by rfl) (by decide) dL_law_837 dL_law_838 dL_law_840 dL_law_841 dL_law_842 ?_
  refine k_arg C hX hXs hbl hbA hL (i := i) 2 (by omega) (lv_at hl 1 rfl) (lv_at hl 6 rfl) (by rfl) (by decide) dL_law_843 dL_law_844 dL_law_846 dL_law_847 dL_law_848 ?_
  refine k_arg C hX hXs hbl hbA hL (i := i) 3 (by omega) (lv_at hl 1 rfl) (lv_at hl 6 rfl) (by rfl) (by decide) dL_law_849 dL_law_850 dL_law_852 dL_law_853 dL_law_854 ?_
  refine k_arg C hX hXs hbl hbA hL (i := i) 4 (by omega) (lv_at hl 1 rfl) (lv_at hl 6 rfl) (by rfl) (by decide) dL_law_855 dL_law_856 dL_law_858 dL_law_859 dL_law_860 ?_
  refine k_calli (va_runV (As := [.int (xs (i + 1)), .int (xs (i + 2)), .int (xs (i + 3)), .int (xs (i + 4))]) (rest := []) C.1 hMm (cwV 4 C.ts gL_law_X9_gasket rfl w1 w2 ⟨rfl, hdW_X9_gasket⟩ ⟨by omega, by show 8 + (10 + 11) + rm2.locals ≤ R.locals; omega⟩) (k_preV C hX (hm9.at 0 rfl) rfl) rfl rfl hl.1 rfl (lv_room (Nat.le_of_ble_eq_true rfl)) dL_law_861 ⟨by omega, by omega⟩) hX (fun r f3 H locs hp3 hX => ?_)
  obtain ⟨m2, hI3, h27, hE0⟩ := hE r f3 hp3
  obtain ⟨o3, c3, hJ3⟩ := id hI3
  refine lv_istore (lv' := [(7, .int r), (6, .int (nI k)), (0, .ref b), (1, .ref h), (2, .ref hm), (3, .ref po), (4, .ref pd), (5, .int (nI i))]) C.x C.b dL_law_864 hl (by decide) rfl (fun ls hl => ?_)
  refine k_thr (tgt := 894) C hX hJ3.mC h27 hk hl.1 (lv_at hl 4 rfl) (lv_at hl 1 rfl) hR ⟨by omega, by omega⟩ (by rfl) (by decide) dL_law_866 dL_law_867 dL_law_870 dL_law_872 dL_law_877 dL_law_879 (fun k9 H locs hX => ?_) (fun H locs hX => ?_)
  · obtain ⟨g9, hg1, hg2⟩ := hE0 k9
    refine k_cmpI C hX hg1 hg2 (lv_at hl 5 rfl) (lv_at hl 0 rfl) (by rfl) dL_law_882 dL_law_883 dL_law_884 dL_law_885 dL_law_887 dL_law_888 dL_law_889 ?_
    refine lv_goto (tgt := 2173) C.x C.b dL_law_894 (by decide) ?_
    refine W.widen (k := cells + 1000) (n := slots + 14000) (by omega) (by omega) ?_
    exact K f3 _ _ m2 ls hX hI3 (lv_sub hl [2, 3, 4, 5, 6, 7] rfl)
  · refine lv_goto (tgt := 2173) C.x C.b dL_law_894 (by decide) ?_
    refine W.widen (k := cells + 1000) (n := slots + 14000) (by omega) (by omega) ?_
    exact K f3 _ _ m2 ls hX hI3 (lv_sub hl [2, 3, 4, 5, 6, 7] rfl)
set_option maxHeartbeats 2000000 in
theorem law_c11 (hst : l.stackTraces = false) (C : kC G B0 p m c cL_law 9 s args wsL_law RL) (hX : kX G B0 s f H locs) (hXs : va_X b L xs s s.heap) (hbl : b < s.heap.size) (hbA : ¬ kAb B0 b) (hL : L ≤ 3072) (hi : i + 6 ≤ L) (hR : 302 ≤ R.frames ∧ 21000 ≤ R.locals) (hcl : cells + 1000 ≤ R.cells ∧ slots + 14000 ≤ R.slots) (hI : Inv G h hm po pd f m0) (hl : lv_has ls 9 (lwL b h hm po pd i))
    (K : ∀ (f1 : kH) (H1 : Heap) (locs1 : List Loc) (m1 : mSt) (ls1 : Array Slot), kX G B0 s f1 H1 locs1 → Inv G h hm po pd f1 m1 → lv_has ls1 9 (lwL b h hm po pd i) → W p l e R s m args below meth c H1 locs1 (cells + 1000) (slots + 14000) Q (F0 m 2173 ls1 [])) : W p l e R s m args below meth c H locs cells slots Q (F0 m 897 ls []) := by
  obtain ⟨o9, c9, hI⟩ := hI
  refine lv_aload_n C.x C.b dL_law_897 rfl (lv_at hl 1 rfl) ?_
  obtain ⟨k, rm, mc, ms, Φ, hk, ⟨q1, q2, q3, q4, q5, q6⟩, hLm, hN⟩ := op_turn (l := l) (B0 := B0) hst hI (xs (i + 1)) (xs (i + 2))
  refine k_arg C hX hXs hbl hbA hL (i := i) 1 (by omega) (lv_at hl 0 rfl) (lv_at hl 5 rfl) (by rfl) (by decide) dL_law_898 dL_law_899 dL_law_901 dL_law_902 dL_law_903 ?_
  refine k_arg C hX hXs hbl hbA hL (i := i) 2 (by omega) (lv_at hl 0 rfl) (lv_at hl 5 rfl) (by rfl) (by decide) dL_law_904 dL_law_905 dL_law_907 dL_law_908 dL_law_909 ?_
  refine lv_aload_n C.x C.b dL_law_910 rfl (lv_at hl 3 rfl) ?_
  refine k_callX (vx_runSX (As := [.ref h, .int (xs (i + 1)), .int (xs (i + 2)), .ref po]) (rest := []) C.1 hLm (vx_cwSW 4 C.ts gL_law_L_turn rfl q1 q2 hdW_L_turn ⟨by omega, by show 8 + (5 + 11) + rm.locals ≤ R.locals; omega⟩) (k_preS C hX) rfl rfl hl.1 rfl (lv_room (Nat.le_of_ble_eq_true rfl)) dL_law_911 ⟨by omega, by omega⟩) hX (fun r9 f2 H locs hp2 hX => ?_)
  obtain ⟨hr9, hp2⟩ := hp2
  subst hr9
  obtain ⟨rm2, mc2, ms2, Ψ, ⟨w1, w2, w3, w4, w5, w6⟩, hMm, ⟨m9, hm9⟩, hE⟩ := hN f2 hp2
  refine lv_istore (lv' := [(6, .int (nI k)), (0, .ref b), (1, .ref h), (2, .ref hm), (3, .ref po), (4, .ref pd), (5, .int (nI i))]) C.x C.b dL_law_914 hl (by decide) rfl (fun ls hl => ?_)
  refine lv_aload_n C.x C.b dL_law_916 rfl (lv_at hl 3 rfl) ?_
  refine k_arg C hX hXs hbl hbA hL (i := i) 1 (by omega) (lv_at hl 1 rfl) (lv_at hl 6 rfl) (by rfl) (by decide) dL_law_917 dL_law_918 dL_law_920 dL_law_921 dL_law_922 ?_
  refine k_arg C hX hXs hbl hbA hL (i := i) 2 (by omega) (lv_at hl 1 rfl) (lv_at hl 6 rfl) (by rfl) (by decide) dL_law_923 dL_law_924 dL_law_926 dL_law_927 dL_law_928 ?_
  refine k_calll (va_runV (As := [.int (xs (i + 1)), .int (xs (i + 2))]) (rest := []) C.1 hMm (cwV 2 C.ts gL_law_X9_turn rfl w1 w2 ⟨rfl, hdW_X9_turn⟩ ⟨by omega, by show 8 + (3 + 11) + rm2.locals ≤ R.locals; omega⟩) (k_preV C hX (hm9.at 0 rfl) rfl) rfl rfl hl.1 rfl (lv_room (Nat.le_of_ble_eq_true rfl)) dL_law_929 ⟨by omega, by omega⟩) hX (fun r f3 H locs hp3 hX => ?_)
  obtain ⟨m2, hI3, h27, hE0⟩ := hE r f3 hp3
  obtain ⟨o3, c3, hJ3⟩ := id hI3
  refine lv_lstore (lv' := [(7, .long r), (6, .int (nI k)), (0, .ref b), (1, .ref h), (2, .ref hm), (3, .ref po), (4, .ref pd), (5, .int (nI i))]) C.x C.b dL_law_932 hl (by decide) rfl (fun ls hl => ?_)
  refine k_thr (tgt := 961) C hX hJ3.mC h27 hk hl.1 (lv_at hl 4 rfl) (lv_at hl 1 rfl) hR ⟨by omega, by omega⟩ (by rfl) (by decide) dL_law_934 dL_law_935 dL_law_938 dL_law_940 dL_law_945 dL_law_947 (fun k9 H locs hX => ?_) (fun H locs hX => ?_)
  · obtain ⟨g9, hg1, hg2⟩ := hE0 k9
    refine k_cmpL C hX hg1 hg2 (lv_at hl 5 rfl) (lv_at hl 0 rfl) (by rfl) dL_law_950 dL_law_951 dL_law_952 dL_law_953 dL_law_955 dL_law_956 ?_
    refine lv_goto (tgt := 2173) C.x C.b dL_law_961 (by decide) ?_
    refine W.widen (k := cells + 1000) (n := slots + 14000) (by omega) (by omega) ?_
    exact K f3 _ _ m2 ls hX hI3 (lv_sub hl [2, 3, 4, 5, 6, 7] rfl)
  · refine lv_goto (tgt := 2173) C.x C.b dL_law_961 (by decide) ?_
    refine W.widen (k := cells + 1000) (n := slots + 14000) (by omega) (by omega) ?_
    exact K f3 _ _ m2 ls hX hI3 (lv_sub hl [2, 3, 4, 5, 6, 7] rfl)
set_option maxHeartbeats 2000000 in
theorem law_c12 (hst : l.stackTraces = false) (C : kC G B0 p m c cL_law 9 s args wsL_law RL) (hX : kX G B0 s f H locs) (hXs : va_X b L xs s s.heap) (hbl : b < s.heap.size) (hbA : ¬ kAb B0 b) (hL : L ≤ 3072) (hi : i + 6 ≤ L) (hR : 302 ≤ R.frames ∧ 21000 ≤ R.locals) (hcl : cells + 1000 ≤ R.cells ∧ slots + 14000 ≤ R.slots) (hI : Inv G h hm po pd f m0) (hl : lv_has ls 9 (lwL b h hm po pd i))
    (K : ∀ (f1 : kH) (H1 : Heap) (locs1 : List Loc) (m1 : mSt) (ls1 : Array Slot), kX G B0 s f1 H1 locs1 → Inv G h hm po pd f1 m1 → lv_has ls1 9 (lwL b h hm po pd i) → W p l e R s m args below meth c H1 locs1 (cells + 1000) (slots + 14000) Q (F0 m 2173 ls1 [])) : W p l e R s m args below meth c H locs cells slots Q (F0 m 964 ls []) := by
  obtain ⟨o9, c9, hI⟩ := hI
  refine lv_aload_n C.x C.b dL_law_964 rfl (lv_at hl 1 rfl) ?_
  obtain ⟨k, rm, mc, ms, Φ, hk, ⟨q1, q2, q3, q4, q5, q6⟩, hLm, hN⟩ := op_curvature (l := l) (B0 := B0) hst hI (xs (i + 1)) (xs (i + 2))
  refine k_arg C hX hXs hbl hbA hL (i := i) 1 (by omega) (lv_at hl 0 rfl) (lv_at hl 5 rfl) (by rfl) (by decide) dL_law_965 dL_law_966 dL_law_968 dL_law_969 dL_law_970 ?_
  refine k_arg C hX hXs hbl hbA hL (i := i) 2 (by omega) (lv_at hl 0 rfl) (lv_at hl 5 rfl) (by rfl) (by decide) dL_law_971 dL_law_972 dL_law_974 dL_law_975 dL_law_976 ?_
  refine lv_aload_n C.x C.b dL_law_977 rfl (lv_at hl 3 rfl) ?_
  refine k_callX (vx_runSX (As := [.ref h, .int (xs (i + 1)), .int (xs (i + 2)), .ref po]) (rest := []) C.1 hLm (vx_cwSW 4 C.ts gL_law_L_curvature rfl q1 q2 hdW_L_curvature ⟨by omega, by show 8 + (5 + 11) + rm.locals ≤ R.locals; omega⟩) (k_preS C hX) rfl rfl hl.1 rfl (lv_room (Nat.le_of_ble_eq_true rfl)) dL_law_978 ⟨by omega, by omega⟩) hX (fun r9 f2 H locs hp2 hX => ?_)
  obtain ⟨hr9, hp2⟩ := hp2
  subst hr9
  obtain ⟨rm2, mc2, ms2, Ψ, ⟨w1, w2, w3, w4, w5, w6⟩, hMm, ⟨m9, hm9⟩, hE⟩ := hN f2 hp2
  refine lv_istore (lv' := [(6, .int (nI k)), (0, .ref b), (1, .ref h), (2, .ref hm), (3, .ref po), (4, .ref pd), (5, .int (nI i))]) C.x C.b dL_law_981 hl (by decide) rfl (fun ls hl => ?_)
  refine lv_aload_n C.x C.b dL_law_983 rfl (lv_at hl 3 rfl) ?_
  refine k_arg C hX hXs hbl hbA hL (i := i) 1 (by omega) (lv_at hl 1 rfl) (lv_at hl 6 rfl) (by rfl) (by decide) dL_law_984 dL_law_985 dL_law_987 dL_law_988 dL_law_989 ?_
  refine k_arg C hX hXs hbl hbA hL (i := i) 2 (by omega) (lv_at hl 1 rfl) (lv_at hl 6 rfl) (by rfl) (by decide) dL_law_990 dL_law_991 dL_law_993 dL_law_994 dL_law_995 ?_
  refine k_calll (va_runV (As := [.int (xs (i + 1)), .int (xs (i + 2))]) (rest := []) C.1 hMm (cwV 2 C.ts gL_law_X9_curvature rfl w1 w2 ⟨rfl, hdW_X9_curvature⟩ ⟨by omega, by show 8 + (3 + 11) + rm2.locals ≤ R.locals; omega⟩) (k_preV C hX (hm9.at 0 rfl) rfl) rfl rfl hl.1 rfl (lv_room (Nat.le_of_ble_eq_true rfl)) dL_law_996 ⟨by omega, by omega⟩) hX (fun r f3 H locs hp3 hX => ?_)
  obtain ⟨m2, hI3, h27, hE0⟩ := hE r f3 hp3
  obtain ⟨o3, c3, hJ3⟩ := id hI3
  refine lv_lstore (lv' := [(7, .long r), (6, .int (nI k)), (0, .ref b), (1, .ref h), (2, .ref hm), (3, .ref po), (4, .ref pd), (5, .int (nI i))]) C.x C.b dL_law_999 hl (by decide) rfl (fun ls hl => ?_)
  refine k_thr (tgt := 1028) C hX hJ3.mC h27 hk hl.1 (lv_at hl 4 rfl) (lv_at hl 1 rfl) hR ⟨by omega, by omega⟩ (by rfl) (by decide) dL_law_1001 dL_law_1002 dL_law_1005 dL_law_1007 dL_law_1012 dL_law_1014 (fun k9 H locs hX => ?_) (fun H locs hX => ?_)
  · obtain ⟨g9, hg1, hg2⟩ := hE0 k9
    refine k_cmpL C hX hg1 hg2 (lv_at hl 5 rfl) (lv_at hl 0 rfl) (by rfl) dL_law_1017 dL_law_1018 dL_law_1019 dL_law_1020 dL_law_1022 dL_law_1023 ?_
    refine lv_goto (tgt := 2173) C.x C.b dL_law_1028 (by decide) ?_
    refine W.widen (k := cells + 1000) (n := slots + 14000) (by omega) (by omega) ?_
    exact K f3 _ _ m2 ls hX hI3 (lv_sub hl [2, 3, 4, 5, 6, 7] rfl)
  · refine lv_goto (tgt := 2173) C.x C.b dL_law_1028 (by decide) ?_
    refine W.widen (k := cells + 1000) (n := slots + 14000) (by omega) (by omega) ?_
    exact K f3 _ _ m2 ls hX hI3 (lv_sub hl [2, 3, 4, 5, 6, 7] rfl)
set_option maxHeartbeats 2000000 in
theorem law_c13 (hst : l.stackTraces = false) (C : kC G B0 p m c cL_law 9 s args wsL_law RL) (hX : kX G B0 s f H locs) (hXs : va_X b L xs s s.heap) (hbl : b < s.heap.size) (hbA : ¬ kAb B0 b) (hL : L ≤ 3072) (hi : i + 6 ≤ L) (hR : 302 ≤ R.frames ∧ 21000 ≤ R.locals) (hcl : cells + 1000 ≤ R.cells ∧ slots + 14000 ≤ R.slots) (hI : Inv G h hm po pd f m0) (hl : lv_has ls 9 (lwL b h hm po pd i))
    (K : ∀ (f1 : kH) (H1 : Heap) (locs1 : List Loc) (m1 : mSt) (ls1 : Array Slot), kX G B0 s f1 H1 locs1 → Inv G h hm po pd f1 m1 → lv_has ls1 9 (lwL b h hm po pd i) → W p l e R s m args below meth c H1 locs1 (cells + 1000) (slots + 14000) Q (F0 m 2173 ls1 [])) : W p l e R s m args below meth c H locs cells slots Q (F0 m 1031 ls []) := by
  obtain ⟨o9, c9, hI⟩ := hI
  refine lv_aload_n C.x C.b dL_law_1031 rfl (lv_at hl 1 rfl) ?_
  obtain ⟨k, rm, mc, ms, Φ, hk, ⟨q1, q2, q3, q4, q5, q6⟩, hLm, hN⟩ := op_radius (l := l) (B0 := B0) hst hI (xs (i + 1)) (xs (i + 2))
  refine k_arg C hX hXs hbl hbA hL (i := i) 1 (by omega) (lv_at hl 0 rfl) (lv_at hl 5 rfl) (by rfl) (by decide) dL_law_1032 dL_law_1033 dL_law_1035 dL_law_1036 dL_law_1037 ?_
  refine k_arg C hX hXs hbl hbA hL (i := i) 2 (by omega) (lv_at hl 0 rfl) (lv_at hl 5 rfl) (by rfl) (by decide) dL_law_1038 dL_law_1039 dL_law_1041 dL_law_1042 dL_law_1043 ?_
  refine lv_aload C.x C.b dL_law_1044 (lv_at hl 4 rfl) ?_
  refine k_callX (vx_runSX (As := [.ref h, .int (xs (i + 1)), .int (xs (i + 2)), .ref pd]) (rest := []) C.1 hLm (vx_cwSW 4 C.ts gL_law_L_radius rfl q1 q2 hdW_L_radius ⟨by omega, by show 8 + (5 + 11) + rm.locals ≤ R.locals; omega⟩) (k_preS C hX) rfl rfl hl.1 rfl (lv_room (Nat.le_of_ble_eq_true rfl)) dL_law_1046 ⟨by omega, by omega⟩) hX (fun r9 f2 H locs hp2 hX => ?_)
  obtain ⟨hr9, hp2⟩ := hp2
  subst hr9
  obtain ⟨rm2, mc2, ms2, Ψ, ⟨w1, w2, w3, w4, w5, w6⟩, hMm, ⟨m9, hm9⟩, hE⟩ := hN f2 hp2
  refine lv_istore (lv' := [(6, .int (nI k)), (0, .ref b), (1, .ref h), (2, .ref hm), (3, .ref po), (4, .ref pd), (5, .int (nI i))]) C.x C.b dL_law_1049 hl (by decide) rfl (fun ls hl => ?_)
  refine lv_aload_n C.x C.b dL_law_1051 rfl (lv_at hl 3 rfl) ?_
  refine k_arg C hX hXs hbl hbA hL (i := i) 1 (by omega) (lv_at hl 1 rfl) (lv_at hl 6 rfl) (by rfl) (by decide) dL_law_1052 dL_law_1053 dL_law_1055 dL_law_1056 dL_law_1057 ?_
  refine k_arg C hX hXs hbl hbA hL (i := i) 2 (by omega) (lv_at hl 1 rfl) (lv_at hl 6 rfl) (by rfl) (by decide) dL_law_1058 dL_law_1059 dL_law_1061 dL_law_1062 dL_law_1063 ?_
  refine k_callf (va_runV (As := [.int (xs (i + 1)), .int (xs (i + 2))]) (rest := []) C.1 hMm (cwV 2 C.ts gL_law_X9_radius rfl w1 w2 ⟨rfl, hdW_X9_radius⟩ ⟨by omega, by show 8 + (3 + 11) + rm2.locals ≤ R.locals; omega⟩) (k_preV C hX (hm9.at 0 rfl) rfl) rfl rfl hl.1 rfl (lv_room (Nat.le_of_ble_eq_true rfl)) dL_law_1064 ⟨by omega, by omega⟩) hX (fun r f3 H locs hp3 hX => ?_)
  obtain ⟨m2, hI3, h27, hE0⟩ := hE r f3 hp3
  obtain ⟨o3, c3, hJ3⟩ := id hI3
  refine lv_fstore (lv' := [(7, .float r), (6, .int (nI k)), (0, .ref b), (1, .ref h), (2, .ref hm), (3, .ref po), (4, .ref pd), (5, .int (nI i))]) C.x C.b dL_law_1067 hl (by decide) rfl (fun ls hl => ?_)
  refine k_thr (tgt := 1118) C hX hJ3.mC h27 hk hl.1 (lv_at hl 4 rfl) (lv_at hl 1 rfl) hR ⟨by omega, by omega⟩ (by rfl) (by decide) dL_law_1069 dL_law_1070 dL_law_1073 dL_law_1075 dL_law_1080 dL_law_1082 (fun k9 H locs hX => ?_) (fun H locs hX => ?_)
  · obtain ⟨x9, g9, e9, hg1, hg2⟩ := hE0 k9
    refine k_cmpD (tgt := 1118) C hX e9 hg1 hg2 (lv_at hl 6 rfl) (lv_at hl 0 rfl) (by decide) dL_law_1085 dL_law_1087 dL_law_1088 dL_law_1089 dL_law_1091 dL_law_1092 dL_law_1093 ?_
    refine lv_goto (tgt := 2173) C.x C.b dL_law_1118 (by decide) ?_
    refine W.widen (k := cells + 1000) (n := slots + 14000) (by omega) (by omega) ?_
    exact K f3 _ _ m2 ls hX hI3 (lv_sub hl [2, 3, 4, 5, 6, 7] rfl)
  · refine lv_goto (tgt := 2173) C.x C.b dL_law_1118 (by decide) ?_
    refine W.widen (k := cells + 1000) (n := slots + 14000) (by omega) (by omega) ?_
    exact K f3 _ _ m2 ls hX hI3 (lv_sub hl [2, 3, 4, 5, 6, 7] rfl)
set_option maxHeartbeats 2000000 in
theorem law_c14 (hst : l.stackTraces = false) (C : kC G B0 p m c cL_law 9 s args wsL_law RL) (hX : kX G B0 s f H locs) (hXs : va_X b L xs s s.heap) (hbl : b < s.heap.size) (hbA : ¬ kAb B0 b) (hL : L ≤ 3072) (hi : i + 6 ≤ L) (hR : 302 ≤ R.frames ∧ 21000 ≤ R.locals) (hcl : cells + 1000 ≤ R.cells ∧ slots + 14000 ≤ R.slots) (hI : Inv G h hm po pd f m0) (hl : lv_has ls 9 (lwL b h hm po pd i))
    (K : ∀ (f1 : kH) (H1 : Heap) (locs1 : List Loc) (m1 : mSt) (ls1 : Array Slot), kX G B0 s f1 H1 locs1 → Inv G h hm po pd f1 m1 → lv_has ls1 9 (lwL b h hm po pd i) → W p l e R s m args below meth c H1 locs1 (cells + 1000) (slots + 14000) Q (F0 m 2173 ls1 [])) : W p l e R s m args below meth c H locs cells slots Q (F0 m 1121 ls []) := by
  obtain ⟨o9, c9, hI⟩ := hI
  refine lv_aload_n C.x C.b dL_law_1121 rfl (lv_at hl 1 rfl) ?_
  obtain ⟨k, rm, mc, ms, Φ, hk, ⟨q1, q2, q3, q4, q5, q6⟩, hLm, hN⟩ := op_root (l := l) (B0 := B0) hst hI (xs (i + 1)) (xs (i + 2))
  refine k_arg C hX hXs hbl hbA hL (i := i) 1 (by omega) (lv_at hl 0 rfl) (lv_at hl 5 rfl) (by rfl) (by decide) dL_law_1122 dL_law_1123 dL_law_1125 dL_law_1126 dL_law_1127 ?_
  refine k_arg C hX hXs hbl hbA hL (i := i) 2 (by omega) (lv_at hl 0 rfl) (lv_at hl 5 rfl) (by rfl) (by decide) dL_law_1128 dL_law_1129 dL_law_1131 dL_law_1132 dL_law_1133 ?_
  refine lv_aload_n C.x C.b dL_law_1134 rfl (lv_at hl 3 rfl) ?_
  refine k_callX (vx_runSX (As := [.ref h, .int (xs (i + 1)), .int (xs (i + 2)), .ref po]) (rest := []) C.1 hLm (vx_cwSW 4 C.ts gL_law_L_root rfl q1 q2 hdW_L_root ⟨by omega, by show 8 + (5 + 11) + rm.locals ≤ R.locals; omega⟩) (k_preS C hX) rfl rfl hl.1 rfl (lv_room (Nat.le_of_ble_eq_true rfl)) dL_law_1135 ⟨by omega, by omega⟩) hX (fun r9 f2 H locs hp2 hX => ?_)
  obtain ⟨hr9, hp2⟩ := hp2
  subst hr9
  obtain ⟨rm2, mc2, ms2, Ψ, ⟨w1, w2, w3, w4, w5, w6⟩, hMm, ⟨m9, hm9⟩, hE⟩ := hN f2 hp2
  refine lv_istore (lv' := [(6, .int (nI k)), (0, .ref b), (1, .ref h), (2, .ref hm), (3, .ref po), (4, .ref pd), (5, .int (nI i))]) C.x C.b dL_law_1138 hl (by decide) rfl (fun ls hl => ?_)
  refine lv_aload_n C.x C.b dL_law_1140 rfl (lv_at hl 3 rfl) ?_
  refine k_arg C hX hXs hbl hbA hL (i := i) 1 (by omega) (lv_at hl 1 rfl) (lv_at hl 6 rfl) (by rfl) (by decide) dL_law_1141 dL_law_1142 dL_law_1144 dL_law_1145 dL_law_1146 ?_
  refine k_arg C hX hXs hbl hbA hL (i := i) 2 (by omega) (lv_at hl 1 rfl) (lv_at hl 6 rfl) (by rfl) (by decide) dL_law_1147 dL_law_1148 dL_law_1150 dL_law_1151 dL_law_1152 ?_
  refine k_calll (va_runV (As := [.int (xs (i + 1)), .int (xs (i + 2))]) (rest := []) C.1 hMm (cwV 2 C.ts gL_law_X9_root rfl w1 w2 ⟨rfl, hdW_X9_root⟩ ⟨by omega, by show 8 + (3 + 11) + rm2.locals ≤ R.locals; omega⟩) (k_preV C hX (hm9.at 0 rfl) rfl) rfl rfl hl.1 rfl (lv_room (Nat.le_of_ble_eq_true rfl)) dL_law_1153 ⟨by omega, by omega⟩) hX (fun r f3 H locs hp3 hX => ?_)
  obtain ⟨m2, hI3, h27, hE0⟩ := hE r f3 hp3
  obtain ⟨o3, c3, hJ3⟩ := id hI3
  refine lv_lstore (lv' := [(7, .long r), (6, .int (nI k)), (0, .ref b), (1, .ref h), (2, .ref hm), (3, .ref po), (4, .ref pd), (5, .int (nI i))]) C.x C.b dL_law_1156 hl (by decide) rfl (fun ls hl => ?_)
  refine k_thr (tgt := 1185) C hX hJ3.mC h27 hk hl.1 (lv_at hl 4 rfl) (lv_at hl 1 rfl) hR ⟨by omega, by omega⟩ (by rfl) (by decide) dL_law_1158 dL_law_1159 dL_law_1162 dL_law_1164 dL_law_1169 dL_law_1171 (fun k9 H locs hX => ?_) (fun H locs hX => ?_)
  · obtain ⟨g9, hg1, hg2⟩ := hE0 k9
    refine k_cmpL C hX hg1 hg2 (lv_at hl 5 rfl) (lv_at hl 0 rfl) (by rfl) dL_law_1174 dL_law_1175 dL_law_1176 dL_law_1177 dL_law_1179 dL_law_1180 ?_
    refine lv_goto (tgt := 2173) C.x C.b dL_law_1185 (by decide) ?_
    refine W.widen (k := cells + 1000) (n := slots + 14000) (by omega) (by omega) ?_
    exact K f3 _ _ m2 ls hX hI3 (lv_sub hl [2, 3, 4, 5, 6, 7] rfl)
  · refine lv_goto (tgt := 2173) C.x C.b dL_law_1185 (by decide) ?_
    refine W.widen (k := cells + 1000) (n := slots + 14000) (by omega) (by omega) ?_
    exact K f3 _ _ m2 ls hX hI3 (lv_sub hl [2, 3, 4, 5, 6, 7] rfl)
set_option maxHeartbeats 2000000 in
theorem law_c15 (hst : l.stackTraces = false) (C : kC G B0 p m c cL_law 9 s args wsL_law RL) (hX : kX G B0 s f H locs) (hXs : va_X b L xs s s.heap) (hbl : b < s.heap.size) (hbA : ¬ kAb B0 b) (hL : L ≤ 3072) (hi : i + 6 ≤ L) (hR : 302 ≤ R.frames ∧ 21000 ≤ R.locals) (hcl : cells + 1000 ≤ R.cells ∧ slots + 14000 ≤ R.slots) (hI : Inv G h hm po pd f m0) (hl : lv_has ls 9 (lwL b h hm po pd i))
    (K : ∀ (f1 : kH) (H1 : Heap) (locs1 : List Loc) (m1 : mSt) (ls1 : Array Slot), kX G B0 s f1 H1 locs1 → Inv G h hm po pd f1 m1 → lv_has ls1 9 (lwL b h hm po pd i) → W p l e R s m args below meth c H1 locs1 (cells + 1000) (slots + 14000) Q (F0 m 2173 ls1 [])) : W p l e R s m args below meth c H locs cells slots Q (F0 m 1188 ls []) := by
  obtain ⟨o9, c9, hI⟩ := hI
  refine lv_aload_n C.x C.b dL_law_1188 rfl (lv_at hl 1 rfl) ?_
  obtain ⟨k, rm, mc, ms, Φ, hk, ⟨q1, q2, q3, q4, q5, q6⟩, hLm, hN⟩ := op_count (l := l) (B0 := B0) hst hI (xs (i + 1)) (xs (i + 2))
  refine k_arg C hX hXs hbl hbA hL (i := i) 1 (by omega) (lv_at hl 0 rfl) (lv_at hl 5 rfl) (by rfl) (by decide) dL_law_1189 dL_law_1190 dL_law_1192 dL_law_1193 dL_law_1194 ?_
  refine k_arg C hX hXs hbl hbA hL (i := i) 2 (by omega) (lv_at hl 0 rfl) (lv_at hl 5 rfl) (by rfl) (by decide) dL_law_1195 dL_law_1196 dL_law_1198 dL_law_1199 dL_law_1200 ?_
  refine lv_aload_n C.x C.b dL_law_1201 rfl (lv_at hl 3 rfl) ?_
  refine k_callX (vx_runSX (As := [.ref h, .int (xs (i + 1)), .int (xs (i + 2)), .ref po]) (rest := []) C.1 hLm (vx_cwSW 4 C.ts gL_law_L_count rfl q1 q2 hdW_L_count ⟨by omega, by show 8 + (5 + 11) + rm.locals ≤ R.locals; omega⟩) (k_preS C hX) rfl rfl hl.1 rfl (lv_room (Nat.le_of_ble_eq_true rfl)) dL_law_1202 ⟨by omega, by omega⟩) hX (fun r9 f2 H locs hp2 hX => ?_)
  obtain ⟨hr9, hp2⟩ := hp2
  subst hr9
  obtain ⟨rm2, mc2, ms2, Ψ, ⟨w1, w2, w3, w4, w5, w6⟩, hMm, ⟨m9, hm9⟩, hE⟩ := hN f2 hp2
  refine lv_istore (lv' := [(6, .int (nI k)), (0, .ref b), (1, .ref h), (2, .ref hm), (3, .ref po), (4, .ref pd), (5, .int (nI i))]) C.x C.b dL_law_1205 hl (by decide) rfl (fun ls hl => ?_)
  refine lv_aload_n C.x C.b dL_law_1207 rfl (lv_at hl 3 rfl) ?_
  refine k_arg C hX hXs hbl hbA hL (i := i) 1 (by omega) (lv_at hl 1 rfl) (lv_at hl 6 rfl) (by rfl) (by decide) dL_law_1208 dL_law_1209 dL_law_1211 dL_law_1212 dL_law_1213 ?_
  refine k_arg C hX hXs hbl hbA hL (i := i) 2 (by omega) (lv_at hl 1 rfl) (lv_at hl 6 rfl) (by rfl) (by decide) dL_law_1214 dL_law_1215 dL_law_1217 dL_law_1218 dL_law_1219 ?_
  refine k_calli (va_runV (As := [.int (xs (i + 1)), .int (xs (i + 2))]) (rest := []) C.1 hMm (cwV 2 C.ts gL_law_X9_count rfl w1 w2 ⟨rfl, hdW_X9_count⟩ ⟨by omega, by show 8 + (3 + 11) + rm2.locals ≤ R.locals; omega⟩) (k_preV C hX (hm9.at 0 rfl) rfl) rfl rfl hl.1 rfl (lv_room (Nat.le_of_ble_eq_true rfl)) dL_law_1220 ⟨by omega, by omega⟩) hX (fun r f3 H locs hp3 hX => ?_)
  obtain ⟨m2, hI3, h27, hE0⟩ := hE r f3 hp3
  obtain ⟨o3, c3, hJ3⟩ := id hI3
  refine lv_istore (lv' := [(7, .int r), (6, .int (nI k)), (0, .ref b), (1, .ref h), (2, .ref hm), (3, .ref po), (4, .ref pd), (5, .int (nI i))]) C.x C.b dL_law_1223 hl (by decide) rfl (fun ls hl => ?_)
  refine k_thr (tgt := 1253) C hX hJ3.mC h27 hk hl.1 (lv_at hl 4 rfl) (lv_at hl 1 rfl) hR ⟨by omega, by omega⟩ (by rfl) (by decide) dL_law_1225 dL_law_1226 dL_law_1229 dL_law_1231 dL_law_1236 dL_law_1238 (fun k9 H locs hX => ?_) (fun H locs hX => ?_)
  · obtain ⟨g9, hg1, hg2⟩ := hE0 k9
    refine k_cmpI C hX hg1 hg2 (lv_at hl 5 rfl) (lv_at hl 0 rfl) (by rfl) dL_law_1241 dL_law_1242 dL_law_1243 dL_law_1244 dL_law_1246 dL_law_1247 dL_law_1248 ?_
    refine lv_goto (tgt := 2173) C.x C.b dL_law_1253 (by decide) ?_
    refine W.widen (k := cells + 1000) (n := slots + 14000) (by omega) (by omega) ?_
    exact K f3 _ _ m2 ls hX hI3 (lv_sub hl [2, 3, 4, 5, 6, 7] rfl)
  · refine lv_goto (tgt := 2173) C.x C.b dL_law_1253 (by decide) ?_
    refine W.widen (k := cells + 1000) (n := slots + 14000) (by omega) (by omega) ?_
    exact K f3 _ _ m2 ls hX hI3 (lv_sub hl [2, 3, 4, 5, 6, 7] rfl)
set_option maxHeartbeats 2000000 in
theorem law_c16 (hst : l.stackTraces = false) (C : kC G B0 p m c cL_law 9 s args wsL_law RL) (hX : kX G B0 s f H locs) (hXs : va_X b L xs s s.heap) (hbl : b < s.heap.size) (hbA : ¬ kAb B0 b) (hL : L ≤ 3072) (hi : i + 6 ≤ L) (hR : 302 ≤ R.frames ∧ 21000 ≤ R.locals) (hcl : cells + 1000 ≤ R.cells ∧ slots + 14000 ≤ R.slots) (hI : Inv G h hm po pd f m0) (hl : lv_has ls 9 (lwL b h hm po pd i))
    (K : ∀ (f1 : kH) (H1 : Heap) (locs1 : List Loc) (m1 : mSt) (ls1 : Array Slot), kX G B0 s f1 H1 locs1 → Inv G h hm po pd f1 m1 → lv_has ls1 9 (lwL b h hm po pd i) → W p l e R s m args below meth c H1 locs1 (cells + 1000) (slots + 14000) Q (F0 m 2173 ls1 [])) : W p l e R s m args below meth c H locs cells slots Q (F0 m 1256 ls []) := by
  obtain ⟨o9, c9, hI⟩ := hI
  refine lv_aload_n C.x C.b dL_law_1256 rfl (lv_at hl 1 rfl) ?_
  obtain ⟨k, rm, mc, ms, Φ, hk, ⟨q1, q2, q3, q4, q5, q6⟩, hLm, hN⟩ := op_countAnew (l := l) (B0 := B0) hst hI (xs (i + 1)) (xs (i + 2))
  refine k_arg C hX hXs hbl hbA hL (i := i) 1 (by omega) (lv_at hl 0 rfl) (lv_at hl 5 rfl) (by rfl) (by decide) dL_law_1257 dL_law_1258 dL_law_1260 dL_law_1261 dL_law_1262 ?_
  refine k_arg C hX hXs hbl hbA hL (i := i) 2 (by omega) (lv_at hl 0 rfl) (lv_at hl 5 rfl) (by rfl) (by decide) dL_law_1263 dL_law_1264 dL_law_1266 dL_law_1267 dL_law_1268 ?_
  refine lv_aload_n C.x C.b dL_law_1269 rfl (lv_at hl 3 rfl) ?_
  refine k_callX (vx_runSX (As := [.ref h, .int (xs (i + 1)), .int (xs (i + 2)), .ref po]) (rest := []) C.1 hLm (vx_cwSW 4 C.ts gL_law_L_countAnew rfl q1 q2 hdW_L_countAnew ⟨by omega, by show 8 + (5 + 11) + rm.locals ≤ R.locals; omega⟩) (k_preS C hX) rfl rfl hl.1 rfl (lv_room (Nat.le_of_ble_eq_true rfl)) dL_law_1270 ⟨by omega, by omega⟩) hX (fun r9 f2 H locs hp2 hX => ?_)
  obtain ⟨hr9, hp2⟩ := hp2
  subst hr9
  obtain ⟨rm2, mc2, ms2, Ψ, ⟨w1, w2, w3, w4, w5, w6⟩, hMm, ⟨m9, hm9⟩, hE⟩ := hN f2 hp2
  refine lv_istore (lv' := [(6, .int (nI k)), (0, .ref b), (1, .ref h), (2, .ref hm), (3, .ref po), (4, .ref pd), (5, .int (nI i))]) C.x C.b dL_law_1273 hl (by decide) rfl (fun ls hl => ?_)
  refine lv_aload_n C.x C.b dL_law_1275 rfl (lv_at hl 3 rfl) ?_
  refine k_arg C hX hXs hbl hbA hL (i := i) 1 (by omega) (lv_at hl 1 rfl) (lv_at hl 6 rfl) (by rfl) (by decide) dL_law_1276 dL_law_1277 dL_law_1279 dL_law_1280 dL_law_1281 ?_
  refine k_arg C hX hXs hbl hbA hL (i := i) 2 (by omega) (lv_at hl 1 rfl) (lv_at hl 6 rfl) (by rfl) (by decide) dL_law_1282 dL_law_1283 dL_law_1285 dL_law_1286 dL_law_1287 ?_
  refine k_calli (va_runV (As := [.int (xs (i + 1)), .int (xs (i + 2))]) (rest := []) C.1 hMm (cwV 2 C.ts gL_law_X9_countAnew rfl w1 w2 ⟨rfl, hdW_X9_countAnew⟩ ⟨by omega, by show 8 + (3 + 11) + rm2.locals ≤ R.locals; omega⟩) (k_preV C hX (hm9.at 0 rfl) rfl) rfl rfl hl.1 rfl (lv_room (Nat.le_of_ble_eq_true rfl)) dL_law_1288 ⟨by omega, by omega⟩) hX (fun r f3 H locs hp3 hX => ?_)
  obtain ⟨m2, hI3, h27, hE0⟩ := hE r f3 hp3
  obtain ⟨o3, c3, hJ3⟩ := id hI3
  refine lv_istore (lv' := [(7, .int r), (6, .int (nI k)), (0, .ref b), (1, .ref h), (2, .ref hm), (3, .ref po), (4, .ref pd), (5, .int (nI i))]) C.x C.b dL_law_1291 hl (by decide) rfl (fun ls hl => ?_)
  refine k_thr (tgt := 1321) C hX hJ3.mC h27 hk hl.1 (lv_at hl 4 rfl) (lv_at hl 1 rfl) hR ⟨by omega, by omega⟩ (by rfl) (by decide) dL_law_1293 dL_law_1294 dL_law_1297 dL_law_1299 dL_law_1304 dL_law_1306 (fun k9 H locs hX => ?_) (fun H locs hX => ?_)
  · obtain ⟨g9, hg1, hg2⟩ := hE0 k9
    refine k_cmpI C hX hg1 hg2 (lv_at hl 5 rfl) (lv_at hl 0 rfl) (by rfl) dL_law_1309 dL_law_1310 dL_law_1311 dL_law_1312 dL_law_1314 dL_law_1315 dL_law_1316 ?_
    refine lv_goto (tgt := 2173) C.x C.b dL_law_1321 (by decide) ?_
    refine W.widen (k := cells + 1000) (n := slots + 14000) (by omega) (by omega) ?_
    exact K f3 _ _ m2 ls hX hI3 (lv_sub hl [2, 3, 4, 5, 6, 7] rfl)
  · refine lv_goto (tgt := 2173) C.x C.b dL_law_1321 (by decide) ?_
    refine W.widen (k := cells + 1000) (n := slots + 14000) (by omega) (by omega) ?_
    exact K f3 _ _ m2 ls hX hI3 (lv_sub hl [2, 3, 4, 5, 6, 7] rfl)
set_option maxHeartbeats 2000000 in
theorem law_c17 (hst : l.stackTraces = false) (C : kC G B0 p m c cL_law 9 s args wsL_law RL) (hX : kX G B0 s f H locs) (hXs : va_X b L xs s s.heap) (hbl : b < s.heap.size) (hbA : ¬ kAb B0 b) (hL : L ≤ 3072) (hi : i + 6 ≤ L) (hR : 302 ≤ R.frames ∧ 21000 ≤ R.locals) (hcl : cells + 1000 ≤ R.cells ∧ slots + 14000 ≤ R.slots) (hI : Inv G h hm po pd f m0) (hl : lv_has ls 9 (lwL b h hm po pd i))
    (K : ∀ (f1 : kH) (H1 : Heap) (locs1 : List Loc) (m1 : mSt) (ls1 : Array Slot), kX G B0 s f1 H1 locs1 → Inv G h hm po pd f1 m1 → lv_has ls1 9 (lwL b h hm po pd i) → W p l e R s m args below meth c H1 locs1 (cells + 1000) (slots + 14000) Q (F0 m 2173 ls1 [])) : W p l e R s m args below meth c H locs cells slots Q (F0 m 1324 ls []) := by
  obtain ⟨o9, c9, hI⟩ := hI
  refine lv_aload_n C.x C.b dL_law_1324 rfl (lv_at hl 1 rfl) ?_
  obtain ⟨k, rm, mc, ms, Φ, hk, ⟨q1, q2, q3, q4, q5, q6⟩, hLm, hN⟩ := op_remainders (l := l) (B0 := B0) hst hI (xs (i + 1)) (xs (i + 2))
  refine k_arg C hX hXs hbl hbA hL (i := i) 1 (by omega) (lv_at hl 0 rfl) (lv_at hl 5 rfl) (by rfl) (by decide) dL_law_1325 dL_law_1326 dL_law_1328 dL_law_1329 dL_law_1330 ?_
  refine k_arg C hX hXs hbl hbA hL (i := i) 2 (by omega) (lv_at hl 0 rfl) (lv_at hl 5 rfl) (by rfl) (by decide) dL_law_1331 dL_law_1332 dL_law_1334 dL_law_1335 dL_law_1336 ?_
  refine lv_aload_n C.x C.b dL_law_1337 rfl (lv_at hl 3 rfl) ?_
  refine k_callX (vx_runSX (As := [.ref h, .int (xs (i + 1)), .int (xs (i + 2)), .ref po]) (rest := []) C.1 hLm (vx_cwSW 4 C.ts gL_law_L_remainders rfl q1 q2 hdW_L_remainders ⟨by omega, by show 8 + (5 + 11) + rm.locals ≤ R.locals; omega⟩) (k_preS C hX) rfl rfl hl.1 rfl (lv_room (Nat.le_of_ble_eq_true rfl)) dL_law_1338 ⟨by omega, by omega⟩) hX (fun r9 f2 H locs hp2 hX => ?_)
  obtain ⟨hr9, hp2⟩ := hp2
  subst hr9
  obtain ⟨rm2, mc2, ms2, Ψ, ⟨w1, w2, w3, w4, w5, w6⟩, hMm, ⟨m9, hm9⟩, hE⟩ := hN f2 hp2
  refine lv_istore (lv' := [(6, .int (nI k)), (0, .ref b), (1, .ref h), (2, .ref hm), (3, .ref po), (4, .ref pd), (5, .int (nI i))]) C.x C.b dL_law_1341 hl (by decide) rfl (fun ls hl => ?_)
  refine lv_aload_n C.x C.b dL_law_1343 rfl (lv_at hl 3 rfl) ?_
  refine k_arg C hX hXs hbl hbA hL (i := i) 1 (by omega) (lv_at hl 1 rfl) (lv_at hl 6 rfl) (by rfl) (by decide) dL_law_1344 dL_law_1345 dL_law_1347 dL_law_1348 dL_law_1349 ?_
  refine k_arg C hX hXs hbl hbA hL (i := i) 2 (by omega) (lv_at hl 1 rfl) (lv_at hl 6 rfl) (by rfl) (by decide) dL_law_1350 dL_law_1351 dL_law_1353 dL_law_1354 dL_law_1355 ?_
  refine k_calli (va_runV (As := [.int (xs (i + 1)), .int (xs (i + 2))]) (rest := []) C.1 hMm (cwV 2 C.ts gL_law_X9_remainders rfl w1 w2 ⟨rfl, hdW_X9_remainders⟩ ⟨by omega, by show 8 + (11 + 11) + rm2.locals ≤ R.locals; omega⟩) (k_preV C hX (hm9.at 0 rfl) rfl) rfl rfl hl.1 rfl (lv_room (Nat.le_of_ble_eq_true rfl)) dL_law_1356 ⟨by omega, by omega⟩) hX (fun r f3 H locs hp3 hX => ?_)
  obtain ⟨m2, hI3, h27, hE0⟩ := hE r f3 hp3
  obtain ⟨o3, c3, hJ3⟩ := id hI3
  refine lv_istore (lv' := [(7, .int r), (6, .int (nI k)), (0, .ref b), (1, .ref h), (2, .ref hm), (3, .ref po), (4, .ref pd), (5, .int (nI i))]) C.x C.b dL_law_1359 hl (by decide) rfl (fun ls hl => ?_)
  refine k_thr (tgt := 1389) C hX hJ3.mC h27 hk hl.1 (lv_at hl 4 rfl) (lv_at hl 1 rfl) hR ⟨by omega, by omega⟩ (by rfl) (by decide) dL_law_1361 dL_law_1362 dL_law_1365 dL_law_1367 dL_law_1372 dL_law_1374 (fun k9 H locs hX => ?_) (fun H locs hX => ?_)
  · obtain ⟨g9, hg1, hg2⟩ := hE0 k9
    refine k_cmpI C hX hg1 hg2 (lv_at hl 5 rfl) (lv_at hl 0 rfl) (by rfl) dL_law_1377 dL_law_1378 dL_law_1379 dL_law_1380 dL_law_1382 dL_law_1383 dL_law_1384 ?_
    refine lv_goto (tgt := 2173) C.x C.b dL_law_1389 (by decide) ?_
    refine W.widen (k := cells + 1000) (n := slots + 14000) (by omega) (by omega) ?_
    exact K f3 _ _ m2 ls hX hI3 (lv_sub hl [2, 3, 4, 5, 6, 7] rfl)
  · refine lv_goto (tgt := 2173) C.x C.b dL_law_1389 (by decide) ?_
    refine W.widen (k := cells + 1000) (n := slots + 14000) (by omega) (by omega) ?_
    exact K f3 _ _ m2 ls hX hI3 (lv_sub hl [2, 3, 4, 5, 6, 7] rfl)
set_option maxHeartbeats 2000000 in
theorem law_c18 (hst : l.stackTraces = false) (C : kC G B0 p m c cL_law 9 s args wsL_law RL) (hX : kX G B0 s f H locs) (hXs : va_X b L xs s s.heap) (hbl : b < s.heap.size) (hbA : ¬ kAb B0 b) (hL : L ≤ 3072) (hi : i + 6 ≤ L) (hR : 302 ≤ R.frames ∧ 21000 ≤ R.locals) (hcl : cells + 1000 ≤ R.cells ∧ slots + 14000 ≤ R.slots) (hI : Inv G h hm po pd f m0) (hl : lv_has ls 9 (lwL b h hm po pd i))
    (K : ∀ (f1 : kH) (H1 : Heap) (locs1 : List Loc) (m1 : mSt) (ls1 : Array Slot), kX G B0 s f1 H1 locs1 → Inv G h hm po pd f1 m1 → lv_has ls1 9 (lwL b h hm po pd i) → W p l e R s m args below meth c H1 locs1 (cells + 1000) (slots + 14000) Q (F0 m 2173 ls1 [])) : W p l e R s m args below meth c H locs cells slots Q (F0 m 1392 ls []) := by
  obtain ⟨o9, c9, hI⟩ := hI
  refine lv_aload_n C.x C.b dL_law_1392 rfl (lv_at hl 1 rfl) ?_
  obtain ⟨k, rm, mc, ms, Φ, hk, ⟨q1, q2, q3, q4, q5, q6⟩, hLm, hN⟩ := op_ford (l := l) (B0 := B0) hst hI (xs (i + 1)) (xs (i + 2)) (xs (i + 3)) (xs (i + 4))
  refine k_arg C hX hXs hbl hbA hL (i := i) 1 (by omega) (lv_at hl 0 rfl) (lv_at hl 5 rfl) (by rfl) (by decide) dL_law_1393 dL_law_1394 dL_law_1396 dL_law_1397 dL_law_1398 ?_
  refine k_arg C hX hXs hbl hbA hL (i := i) 2 (by omega) (lv_at hl 0 rfl) (lv_at hl 5 rfl) (by rfl) (by decide) dL_law_1399 dL_law_1400 dL_law_1402 dL_law_1403 dL_law_1404 ?_
  refine k_arg C hX hXs hbl hbA hL (i := i) 3 (by omega) (lv_at hl 0 rfl) (lv_at hl 5 rfl) (by rfl) (by decide) dL_law_1405 dL_law_1406 dL_law_1408 dL_law_1409 dL_law_1410 ?_
  refine k_arg C hX hXs hbl hbA hL (i := i) 4 (by omega) (lv_at hl 0 rfl) (lv_at hl 5 rfl) (by rfl) (by decide) dL_law_1411 dL_law_1412 dL_law_1414 dL_law_1415 dL_law_1416 ?_
  refine lv_aload_n C.x C.b dL_law_1417 rfl (lv_at hl 3 rfl) ?_
  refine k_callX (vx_runSX (As := [.ref h, .int (xs (i + 1)), .int (xs (i + 2)), .int (xs (i + 3)), .int (xs (i + 4)), .ref po]) (rest := []) C.1 hLm (vx_cwSW 6 C.ts gL_law_L_ford rfl q1 q2 hdW_L_ford ⟨by omega, by show 8 + (7 + 11) + rm.locals ≤ R.locals; omega⟩) (k_preS C hX) rfl rfl hl.1 rfl (lv_room (Nat.le_of_ble_eq_true rfl)) dL_law_1418 ⟨by omega, by omega⟩) hX (fun r9 f2 H locs hp2 hX => ?_)
  obtain ⟨hr9, hp2⟩ := hp2
  subst hr9
  obtain ⟨rm2, mc2, ms2, Ψ, ⟨w1, w2, w3, w4, w5, w6⟩, hMm, ⟨m9, hm9⟩, hE⟩ := hN f2 hp2
  refine lv_istore (lv' := [(6, .int (nI k)), (0, .ref b), (1, .ref h), (2, .ref hm), (3, .ref po), (4, .ref pd), (5, .int (nI i))]) C.x C.b dL_law_1421 hl (by decide) rfl (fun ls hl => ?_)
  refine lv_aload_n C.x C.b dL_law_1423 rfl (lv_at hl 3 rfl) ?_
  refine k_arg C hX hXs hbl hbA hL (i := i) 1 (by omega) (lv_at hl 1 rfl) (lv_at hl 6 rfl) (by rfl) (by decide) dL_law_1424 dL_law_1425 dL_law_1427 dL_law_1428 dL_law_1429 ?_
  refine k_arg C hX hXs hbl hbA hL (i := i) 2 (by omega) (lv_at hl 1 rfl) (lv_at hl 6 rfl) (by rfl) (by decide) dL_law_1430 dL_law_1431 dL_law_1433 dL_law_1434 dL_law_1435 ?_
  refine k_arg C hX hXs hbl hbA hL (i := i) 3 (by omega) (lv_at hl 1 rfl) (lv_at hl 6 rfl) (by rfl) (by decide) dL_law_1436 dL_law_1437 dL_law_1439 dL_law_1440 dL_law_1441 ?_
  refine k_arg C hX hXs hbl hbA hL (i := i) 4 (by omega) (lv_at hl 1 rfl) (lv_at hl 6 rfl) (by rfl) (by decide) dL_law_1442 dL_law_1443 dL_law_1445 dL_law_1446 dL_law_1447 ?_
  refine k_calli (va_runV (As := [.int (xs (i + 1)), .int (xs (i + 2)), .int (xs (i + 3)), .int (xs (i + 4))]) (rest := []) C.1 hMm (cwV 4 C.ts gL_law_X9_ford rfl w1 w2 ⟨rfl, hdW_X9_ford⟩ ⟨by omega, by show 8 + (7 + 11) + rm2.locals ≤ R.locals; omega⟩) (k_preV C hX (hm9.at 0 rfl) rfl) rfl rfl hl.1 rfl (lv_room (Nat.le_of_ble_eq_true rfl)) dL_law_1448 ⟨by omega, by omega⟩) hX (fun r f3 H locs hp3 hX => ?_)
  obtain ⟨m2, hI3, h27, hE0⟩ := hE r f3 hp3
  obtain ⟨o3, c3, hJ3⟩ := id hI3
  refine lv_istore (lv' := [(7, .int r), (6, .int (nI k)), (0, .ref b), (1, .ref h), (2, .ref hm), (3, .ref po), (4, .ref pd), (5, .int (nI i))]) C.x C.b dL_law_1451 hl (by decide) rfl (fun ls hl => ?_)
  refine k_thr (tgt := 1481) C hX hJ3.mC h27 hk hl.1 (lv_at hl 4 rfl) (lv_at hl 1 rfl) hR ⟨by omega, by omega⟩ (by rfl) (by decide) dL_law_1453 dL_law_1454 dL_law_1457 dL_law_1459 dL_law_1464 dL_law_1466 (fun k9 H locs hX => ?_) (fun H locs hX => ?_)
  · obtain ⟨g9, hg1, hg2⟩ := hE0 k9
    refine k_cmpI C hX hg1 hg2 (lv_at hl 5 rfl) (lv_at hl 0 rfl) (by rfl) dL_law_1469 dL_law_1470 dL_law_1471 dL_law_1472 dL_law_1474 dL_law_1475 dL_law_1476 ?_
    refine lv_goto (tgt := 2173) C.x C.b dL_law_1481 (by decide) ?_
    refine W.widen (k := cells + 1000) (n := slots + 14000) (by omega) (by omega) ?_
    exact K f3 _ _ m2 ls hX hI3 (lv_sub hl [2, 3, 4, 5, 6, 7] rfl)
  · refine lv_goto (tgt := 2173) C.x C.b dL_law_1481 (by decide) ?_
    refine W.widen (k := cells + 1000) (n := slots + 14000) (by omega) (by omega) ?_
    exact K f3 _ _ m2 ls hX hI3 (lv_sub hl [2, 3, 4, 5, 6, 7] rfl)
set_option maxHeartbeats 2000000 in
theorem law_c19 (hst : l.stackTraces = false) (C : kC G B0 p m c cL_law 9 s args wsL_law RL) (hX : kX G B0 s f H locs) (hXs : va_X b L xs s s.heap) (hbl : b < s.heap.size) (hbA : ¬ kAb B0 b) (hL : L ≤ 3072) (hi : i + 6 ≤ L) (hR : 302 ≤ R.frames ∧ 21000 ≤ R.locals) (hcl : cells + 1000 ≤ R.cells ∧ slots + 14000 ≤ R.slots) (hI : Inv G h hm po pd f m0) (hl : lv_has ls 9 (lwL b h hm po pd i))
    (K : ∀ (f1 : kH) (H1 : Heap) (locs1 : List Loc) (m1 : mSt) (ls1 : Array Slot), kX G B0 s f1 H1 locs1 → Inv G h hm po pd f1 m1 → lv_has ls1 9 (lwL b h hm po pd i) → W p l e R s m args below meth c H1 locs1 (cells + 1000) (slots + 14000) Q (F0 m 2173 ls1 [])) : W p l e R s m args below meth c H locs cells slots Q (F0 m 1484 ls []) := by
  obtain ⟨o9, c9, hI⟩ := hI
  refine lv_aload_n C.x C.b dL_law_1484 rfl (lv_at hl 1 rfl) ?_
  obtain ⟨k, rm, mc, ms, Φ, hk, ⟨q1, q2, q3, q4, q5, q6⟩, hLm, hN⟩ := op_between (l := l) (B0 := B0) hst hI (xs (i + 1)) (xs (i + 2)) (xs (i + 3)) (xs (i + 4)) (kbI (¬ xs (i + 5) = 0)) (kbI_n01 _)
  refine k_arg C hX hXs hbl hbA hL (i := i) 1 (by omega) (lv_at hl 0 rfl) (lv_at hl 5 rfl) (by rfl) (by decide) dL_law_1485 dL_law_1486 dL_law_1488 dL_law_1489 dL_law_1490 ?_
  refine k_arg C hX hXs hbl hbA hL (i := i) 2 (by omega) (lv_at hl 0 rfl) (lv_at hl 5 rfl) (by rfl) (by decide) dL_law_1491 dL_law_1492 dL_law_1494 dL_law_1495 dL_law_1496 ?_
  refine k_arg C hX hXs hbl hbA hL (i := i) 3 (by omega) (lv_at hl 0 rfl) (lv_at hl 5 rfl) (by rfl) (by decide) dL_law_1497 dL_law_1498 dL_law_1500 dL_law_1501 dL_law_1502 ?_
  refine k_arg C hX hXs hbl hbA hL (i := i) 4 (by omega) (lv_at hl 0 rfl) (lv_at hl 5 rfl) (by rfl) (by decide) dL_law_1503 dL_law_1504 dL_law_1506 dL_law_1507 dL_law_1508 ?_
  refine k_argB C hX hXs hbl hbA hL (i := i) 5 (by omega) (lv_at hl 0 rfl) (lv_at hl 5 rfl) (by rfl) (by decide) dL_law_1509 dL_law_1510 dL_law_1512 dL_law_1513 dL_law_1514 dL_law_1515 dL_law_1518 dL_law_1519 dL_law_1522 ?_
  refine lv_aload_n C.x C.b dL_law_1523 rfl (lv_at hl 3 rfl) ?_
  refine k_callX (vx_runSX (As := [.ref h, .int (xs (i + 1)), .int (xs (i + 2)), .int (xs (i + 3)), .int (xs (i + 4)), .int (kbI (¬ xs (i + 5) = 0)), .ref po]) (rest := []) C.1 hLm (vx_cwSW 7 C.ts gL_law_L_between rfl q1 q2 hdW_L_between ⟨by omega, by show 8 + (8 + 11) + rm.locals ≤ R.locals; omega⟩) (k_preS C hX) rfl rfl hl.1 rfl (lv_room (Nat.le_of_ble_eq_true rfl)) dL_law_1524 ⟨by omega, by omega⟩) hX (fun r9 f2 H locs hp2 hX => ?_)
  obtain ⟨hr9, hp2⟩ := hp2
  subst hr9
  obtain ⟨rm2, mc2, ms2, Ψ, ⟨w1, w2, w3, w4, w5, w6⟩, hMm, ⟨m9, hm9⟩, hE⟩ := hN f2 hp2
  refine lv_istore (lv' := [(6, .int (nI k)), (0, .ref b), (1, .ref h), (2, .ref hm), (3, .ref po), (4, .ref pd), (5, .int (nI i))]) C.x C.b dL_law_1527 hl (by decide) rfl (fun ls hl => ?_)
  refine lv_aload_n C.x C.b dL_law_1529 rfl (lv_at hl 3 rfl) ?_
  refine k_arg C hX hXs hbl hbA hL (i := i) 1 (by omega) (lv_at hl 1 rfl) (lv_at hl 6 rfl) (by rfl) (by decide) dL_law_1530 dL_law_1531 dL_law_1533 dL_law_1534 dL_law_1535 ?_
  refine k_arg C hX hXs hbl hbA hL (i := i) 2 (by omega) (lv_at hl 1 rfl) (lv_at hl 6 rfl) (by rfl) (by decide) dL_law_1536 dL_law_1537 dL_law_1539 dL_law_1540 dL_law_1541 ?_
  refine k_arg C hX hXs hbl hbA hL (i := i) 3 (by omega) (lv_at hl 1 rfl) (lv_at hl 6 rfl) (by rfl) (by decide) dL_law_1542 dL_law_1543 dL_law_1545 dL_law_1546 dL_law_1547 ?_
  refine k_arg C hX hXs hbl hbA hL (i := i) 4 (by omega) (lv_at hl 1 rfl) (lv_at hl 6 rfl) (by rfl) (by decide) dL_law_1548 dL_law_1549 dL_law_1551 dL_law_1552 dL_law_1553 ?_
  refine k_argB C hX hXs hbl hbA hL (i := i) 5 (by omega) (lv_at hl 1 rfl) (lv_at hl 6 rfl) (by rfl) (by decide) dL_law_1554 dL_law_1555 dL_law_1557 dL_law_1558 dL_law_1559 dL_law_1560 dL_law_1563 dL_law_1564 dL_law_1567 ?_
  refine k_calll (va_runV (As := [.int (xs (i + 1)), .int (xs (i + 2)), .int (xs (i + 3)), .int (xs (i + 4)), .int (kbI (¬ xs (i + 5) = 0))]) (rest := []) C.1 hMm (cwV 5 C.ts gL_law_X9_between rfl w1 w2 ⟨rfl, hdW_X9_between⟩ ⟨by omega, by show 8 + (6 + 11) + rm2.locals ≤ R.locals; omega⟩) (k_preV C hX (hm9.at 0 rfl) rfl) rfl rfl hl.1 rfl (lv_room (Nat.le_of_ble_eq_true rfl)) dL_law_1568 ⟨by omega, by omega⟩) hX (fun r f3 H locs hp3 hX => ?_)
  obtain ⟨m2, hI3, h27, hE0⟩ := hE r f3 hp3
  obtain ⟨o3, c3, hJ3⟩ := id hI3
  refine lv_lstore (lv' := [(7, .long r), (6, .int (nI k)), (0, .ref b), (1, .ref h), (2, .ref hm), (3, .ref po), (4, .ref pd), (5, .int (nI i))]) C.x C.b dL_law_1571 hl (by decide) rfl (fun ls hl => ?_)
  refine k_thr (tgt := 1600) C hX hJ3.mC h27 hk hl.1 (lv_at hl 4 rfl) (lv_at hl 1 rfl) hR ⟨by omega, by omega⟩ (by rfl) (by decide) dL_law_1573 dL_law_1574 dL_law_1577 dL_law_1579 dL_law_1584 dL_law_1586 (fun k9 H locs hX => ?_) (fun H locs hX => ?_)
  · obtain ⟨g9, hg1, hg2⟩ := hE0 k9
    refine k_cmpL C hX hg1 hg2 (lv_at hl 5 rfl) (lv_at hl 0 rfl) (by rfl) dL_law_1589 dL_law_1590 dL_law_1591 dL_law_1592 dL_law_1594 dL_law_1595 ?_
    refine lv_goto (tgt := 2173) C.x C.b dL_law_1600 (by decide) ?_
    refine W.widen (k := cells + 1000) (n := slots + 14000) (by omega) (by omega) ?_
    exact K f3 _ _ m2 ls hX hI3 (lv_sub hl [2, 3, 4, 5, 6, 7] rfl)
  · refine lv_goto (tgt := 2173) C.x C.b dL_law_1600 (by decide) ?_
    refine W.widen (k := cells + 1000) (n := slots + 14000) (by omega) (by omega) ?_
    exact K f3 _ _ m2 ls hX hI3 (lv_sub hl [2, 3, 4, 5, 6, 7] rfl)
end KLC1
