/-! the law's small askers -/
abbrev rmF : Room := { frames := 301, cells := 80, slots := 640, locals := 20040 }
theorem lkC_3 : Cond.constant RL 140 (-7000003) ∈ wsL_law := upL _ (List.mem_of_getElem? (i := 3) (by decide +kernel))
theorem lkC_640 : Cond.constant RL 163 (-1000000000) ∈ wsL_law := upL _ (List.mem_of_getElem? (i := 640) (by decide +kernel))
theorem lkC_641 : Cond.constant RL 164 (1000000000) ∈ wsL_law := upL _ (List.mem_of_getElem? (i := 641) (by decide +kernel))
theorem lkC_642 : Cond.constant RL 165 (-999999999) ∈ wsL_law := upL _ (List.mem_of_getElem? (i := 642) (by decide +kernel))
theorem lkC_653 : Cond.constantLong RL 166 (-1) ∈ wsL_law := upL _ (List.mem_of_getElem? (i := 653) (by decide +kernel))
theorem lkC_654 : Cond.constantLong RL 168 (2) ∈ wsL_law := upL _ (List.mem_of_getElem? (i := 654) (by decide +kernel))
theorem lkC_655 : Cond.constantLong RL 170 (3) ∈ wsL_law := upL _ (List.mem_of_getElem? (i := 655) (by decide +kernel))
theorem lkC_656 : Cond.constantLong RL 176 (15) ∈ wsL_law := upL _ (List.mem_of_getElem? (i := 656) (by decide +kernel))
theorem lkC_657 : Cond.constantFloat RL 178 (1056964608) ∈ wsL_law := upL _ (List.mem_of_getElem? (i := 657) (by decide +kernel))
theorem lkC_658 : Cond.constantFloat RL 179 (1032358025) ∈ wsL_law := upL _ (List.mem_of_getElem? (i := 658) (by decide +kernel))
theorem lkC_659 : Cond.constantLong RL 180 (38) ∈ wsL_law := upL _ (List.mem_of_getElem? (i := 659) (by decide +kernel))
theorem lkC_660 : Cond.constantLong RL 184 (71) ∈ wsL_law := upL _ (List.mem_of_getElem? (i := 660) (by decide +kernel))
theorem lkC_661 : Cond.constantFloat RL 186 (3212836864) ∈ wsL_law := upL _ (List.mem_of_getElem? (i := 661) (by decide +kernel))
theorem lkC_662 : Cond.constantFloat RL 187 (1232348160) ∈ wsL_law := upL _ (List.mem_of_getElem? (i := 662) (by decide +kernel))
theorem lkC_663 : Cond.constantLong RL 188 (4) ∈ wsL_law := upL _ (List.mem_of_getElem? (i := 663) (by decide +kernel))
theorem lkC_664 : Cond.constantLong RL 190 (-2) ∈ wsL_law := upL _ (List.mem_of_getElem? (i := 664) (by decide +kernel))
theorem lkC_665 : Cond.constantLong RL 192 (6) ∈ wsL_law := upL _ (List.mem_of_getElem? (i := 665) (by decide +kernel))
theorem lkC_666 : Cond.constantLong RL 194 (7) ∈ wsL_law := upL _ (List.mem_of_getElem? (i := 666) (by decide +kernel))
theorem lkC_667 : Cond.constantLong RL 196 (1000000000000000) ∈ wsL_law := upL _ (List.mem_of_getElem? (i := 667) (by decide +kernel))
theorem lkC_668 : Cond.constantLong RL 198 (100000000000000) ∈ wsL_law := upL _ (List.mem_of_getElem? (i := 668) (by decide +kernel))
theorem lkC_678 : Cond.constant RL 200 (999999999) ∈ wsL_law := upL _ (List.mem_of_getElem? (i := 678) (by decide +kernel))
theorem lkC_679 : Cond.constantLong RL 204 (5) ∈ wsL_law := upL _ (List.mem_of_getElem? (i := 679) (by decide +kernel))
theorem lkC_680 : Cond.constantLong RL 206 (8) ∈ wsL_law := upL _ (List.mem_of_getElem? (i := 680) (by decide +kernel))
theorem lkC_681 : Cond.constantLong RL 208 (11) ∈ wsL_law := upL _ (List.mem_of_getElem? (i := 681) (by decide +kernel))
theorem lkC_682 : Cond.constantLong RL 210 (-3) ∈ wsL_law := upL _ (List.mem_of_getElem? (i := 682) (by decide +kernel))
theorem lkC_683 : Cond.constantLong RL 212 (1000000000) ∈ wsL_law := upL _ (List.mem_of_getElem? (i := 683) (by decide +kernel))
theorem lkC_684 : Cond.constantLong RL 214 (1000000001) ∈ wsL_law := upL _ (List.mem_of_getElem? (i := 684) (by decide +kernel))
theorem lkC_685 : Cond.constantLong RL 216 (-999999999) ∈ wsL_law := upL _ (List.mem_of_getElem? (i := 685) (by decide +kernel))
theorem lkC_686 : Cond.constantLong RL 218 (12) ∈ wsL_law := upL _ (List.mem_of_getElem? (i := 686) (by decide +kernel))
theorem lkC_687 : Cond.constantLong RL 220 (17) ∈ wsL_law := upL _ (List.mem_of_getElem? (i := 687) (by decide +kernel))
theorem lkC_694 : Cond.constantLong RL 224 (-7) ∈ wsL_law := upL _ (List.mem_of_getElem? (i := 694) (by decide +kernel))
theorem lkC_695 : Cond.constantLong RL 229 (6999999998) ∈ wsL_law := upL _ (List.mem_of_getElem? (i := 695) (by decide +kernel))
theorem lkC_696 : Cond.constantLong RL 231 (2999999999) ∈ wsL_law := upL _ (List.mem_of_getElem? (i := 696) (by decide +kernel))
theorem lkC_697 : Cond.constant RL 236 (999998) ∈ wsL_law := upL _ (List.mem_of_getElem? (i := 697) (by decide +kernel))
theorem lkC_698 : Cond.constant RL 237 (999997000) ∈ wsL_law := upL _ (List.mem_of_getElem? (i := 698) (by decide +kernel))
theorem lkC_699 : Cond.constant RL 238 (999998000) ∈ wsL_law := upL _ (List.mem_of_getElem? (i := 699) (by decide +kernel))
theorem lkC_700 : Cond.constant RL 239 (-999999) ∈ wsL_law := upL _ (List.mem_of_getElem? (i := 700) (by decide +kernel))
theorem lkC_701 : Cond.constant RL 240 (999999) ∈ wsL_law := upL _ (List.mem_of_getElem? (i := 701) (by decide +kernel))
set_option maxHeartbeats 16000000 in
set_option maxRecDepth 100000 in
theorem pL_face {l : Launch} (hst : l.stackTraces = false) {G : kG} {B0 h : Nat} {f : kH} {m : pSt} (hI : Inv G h f m) (t a b d : Int32) (e0 : c_corner m t (nI 0) = (0, a, m)) (e1 : c_corner m t (nI 1) = (0, b, m)) (e2 : c_corner m t (nI 2) = (0, d, m)) : Met l yL_face wsP_face rmF (kP G B0 f [.ref h, .int t, .int a, .int b, .int d]) (kQi G B0 (fun r f1 => r = nI 1 ∧ Inv G h f1 m)) 80 640 (kAb B0) := by
  refine kMet (cc := cL_face) (maxL := 5) (ret := (some .boolean)) (by decide) rfl (Nat.le_of_ble_eq_true rfl) ?_
  intro p e s mi args below meth c H locs Q ls C hX hl hr hlocks hnm hQ
  have hl : lv_has ls 5 [(0, .ref h), (1, .int t), (2, .int a), (3, .int b), (4, .int d)] := hl
  refine lv_aload_n C.x C.b dL_face_0 rfl (lv_at hl 0 rfl) ?_
  refine lv_iload_n C.x C.b dL_face_1 rfl (lv_at hl 1 rfl) ?_
  refine lv_iconst (v := (nI 0)) C.x C.b dL_face_2 (by decide) ?_
  refine k_cI (As := [.int t, .int (nI 0)]) (rest := []) (c2 := 8) (s2 := 64) (v := a) (m1 := m) C hX (iop_corner hst hI t (nI 0)) (e0) hI.hd (gl_up inv_X8_corner) rfl ⟨rfl, hdA_X8_corner⟩ (by decide) rfl hl.1 rfl (by decide) dL_face_3 ⟨Nat.le_of_ble_eq_true rfl, Nat.le_of_ble_eq_true rfl⟩ ⟨Nat.le_of_ble_eq_true rfl, Nat.le_of_ble_eq_true rfl⟩ rfl rfl (fun f H locs hX hI => ?_)
  refine lv_iload_n C.x C.b dL_face_6 rfl (lv_at hl 2 rfl) ?_
  refine lv_icmp_ne (tgt := 35) C.x C.b dL_face_7 (by decide) (fun q9 => absurd (rfl) q9) (fun _ => ?_)
  refine lv_aload_n C.x C.b dL_face_10 rfl (lv_at hl 0 rfl) ?_
  refine lv_iload_n C.x C.b dL_face_11 rfl (lv_at hl 1 rfl) ?_
  refine lv_iconst (v := (nI 1)) C.x C.b dL_face_12 (by decide) ?_
  refine k_cI (As := [.int t, .int (nI 1)]) (rest := []) (c2 := 16) (s2 := 128) (v := b) (m1 := m) C hX (iop_corner hst hI t (nI 1)) (e1) hI.hd (gl_up inv_X8_corner) rfl ⟨rfl, hdA_X8_corner⟩ (by decide) rfl hl.1 rfl (by decide) dL_face_13 ⟨Nat.le_of_ble_eq_true rfl, Nat.le_of_ble_eq_true rfl⟩ ⟨Nat.le_of_ble_eq_true rfl, Nat.le_of_ble_eq_true rfl⟩ rfl rfl (fun f H locs hX hI => ?_)
  refine lv_iload_n C.x C.b dL_face_16 rfl (lv_at hl 3 rfl) ?_
  refine lv_icmp_ne (tgt := 35) C.x C.b dL_face_17 (by decide) (fun q9 => absurd (rfl) q9) (fun _ => ?_)
  refine lv_aload_n C.x C.b dL_face_20 rfl (lv_at hl 0 rfl) ?_
  refine lv_iload_n C.x C.b dL_face_21 rfl (lv_at hl 1 rfl) ?_
  refine lv_iconst (v := (nI 2)) C.x C.b dL_face_22 (by decide) ?_
  refine k_cI (As := [.int t, .int (nI 2)]) (rest := []) (c2 := 24) (s2 := 192) (v := d) (m1 := m) C hX (iop_corner hst hI t (nI 2)) (e2) hI.hd (gl_up inv_X8_corner) rfl ⟨rfl, hdA_X8_corner⟩ (by decide) rfl hl.1 rfl (by decide) dL_face_23 ⟨Nat.le_of_ble_eq_true rfl, Nat.le_of_ble_eq_true rfl⟩ ⟨Nat.le_of_ble_eq_true rfl, Nat.le_of_ble_eq_true rfl⟩ rfl rfl (fun f H locs hX hI => ?_)
  refine lv_iload C.x C.b dL_face_26 (lv_at hl 4 rfl) ?_
  refine lv_icmp_ne (tgt := 35) C.x C.b dL_face_28 (by decide) (fun q9 => absurd (rfl) q9) (fun _ => ?_)
  refine lv_iconst (v := (nI 1)) C.x C.b dL_face_31 (by decide) ?_
  refine lv_goto (tgt := 36) C.x C.b dL_face_32 (by decide) ?_
  exact k_zret C hX hr hlocks hQ (Nat.le_of_ble_eq_true rfl) (Nat.le_of_ble_eq_true rfl) (Or.inr rfl) ⟨rfl, hI⟩ dL_face_36
set_option maxHeartbeats 16000000 in
set_option maxRecDepth 100000 in
theorem pL_net {l : Launch} (hst : l.stackTraces = false) {G : kG} {B0 h : Nat} {f : kH} {m : pSt} (hI : Inv G h f m) (a b d : Int32) (e0 : c_net m (nI 0) = (0, a, m)) (e1 : c_net m (nI 1) = (0, (nI 3) * a - (nI 6), m)) (e2 : c_net m (nI 2) = (0, (nI 2) * a - (nI 4), m)) (e3 : c_net m (nI 3) = (0, b, m)) (e4 : c_net m (nI 4) = (0, d, m)) : Met l yL_net wsP_net rmF (kP G B0 f [.ref h, .int a, .int b, .int d]) (kQi G B0 (fun r f1 => r = nI 1 ∧ Inv G h f1 m)) 80 640 (kAb B0) := by
  refine kMet (cc := cL_net) (maxL := 4) (ret := (some .boolean)) (by decide) rfl (Nat.le_of_ble_eq_true rfl) ?_
  intro p e s mi args below meth c H locs Q ls C hX hl hr hlocks hnm hQ
  have hl : lv_has ls 4 [(0, .ref h), (1, .int a), (2, .int b), (3, .int d)] := hl
  refine lv_aload_n C.x C.b dL_net_0 rfl (lv_at hl 0 rfl) ?_
  refine lv_iconst (v := (nI 0)) C.x C.b dL_net_1 (by decide) ?_
  refine k_cI (As := [.int (nI 0)]) (rest := []) (c2 := 8) (s2 := 64) (v := a) (m1 := m) C hX (iop_net hst hI (nI 0)) (e0) hI.hd (gl_up inv_X8_net) rfl ⟨rfl, hdA_X8_net⟩ (by decide) rfl hl.1 rfl (by decide) dL_net_2 ⟨Nat.le_of_ble_eq_true rfl, Nat.le_of_ble_eq_true rfl⟩ ⟨Nat.le_of_ble_eq_true rfl, Nat.le_of_ble_eq_true rfl⟩ rfl rfl (fun f H locs hX hI => ?_)
  refine lv_iload_n C.x C.b dL_net_5 rfl (lv_at hl 1 rfl) ?_
  refine lv_icmp_ne (tgt := 58) C.x C.b dL_net_6 (by decide) (fun q9 => absurd (rfl) q9) (fun _ => ?_)
  refine lv_aload_n C.x C.b dL_net_9 rfl (lv_at hl 0 rfl) ?_
  refine lv_iconst (v := (nI 1)) C.x C.b dL_net_10 (by decide) ?_
  refine k_cI (As := [.int (nI 1)]) (rest := []) (c2 := 16) (s2 := 128) (v := (((nI 3) * a) - (nI 6))) (m1 := m) C hX (iop_net hst hI (nI 1)) (e1) hI.hd (gl_up inv_X8_net) rfl ⟨rfl, hdA_X8_net⟩ (by decide) rfl hl.1 rfl (by decide) dL_net_11 ⟨Nat.le_of_ble_eq_true rfl, Nat.le_of_ble_eq_true rfl⟩ ⟨Nat.le_of_ble_eq_true rfl, Nat.le_of_ble_eq_true rfl⟩ rfl rfl (fun f H locs hX hI => ?_)
  refine lv_iconst (v := (nI 3)) C.x C.b dL_net_14 (by decide) ?_
  refine lv_iload_n C.x C.b dL_net_15 rfl (lv_at hl 1 rfl) ?_
  refine lv_imul C.x C.b dL_net_16 ?_
  refine lv_bipush (v := (nI 6)) C.x C.b dL_net_17 (by decide) ?_
  refine lv_isub C.x C.b dL_net_19 ?_
  refine lv_icmp_ne (tgt := 58) C.x C.b dL_net_20 (by decide) (fun q9 => absurd (rfl) q9) (fun _ => ?_)
  refine lv_aload_n C.x C.b dL_net_23 rfl (lv_at hl 0 rfl) ?_
  refine lv_iconst (v := (nI 2)) C.x C.b dL_net_24 (by decide) ?_
  refine k_cI (As := [.int (nI 2)]) (rest := []) (c2 := 24) (s2 := 192) (v := (((nI 2) * a) - (nI 4))) (m1 := m) C hX (iop_net hst hI (nI 2)) (e2) hI.hd (gl_up inv_X8_net) rfl ⟨rfl, hdA_X8_net⟩ (by decide) rfl hl.1 rfl (by decide) dL_net_25 ⟨Nat.le_of_ble_eq_true rfl, Nat.le_of_ble_eq_true rfl⟩ ⟨Nat.le_of_ble_eq_true rfl, Nat.le_of_ble_eq_true rfl⟩ rfl rfl (fun f H locs hX hI => ?_)
  refine lv_iconst (v := (nI 2)) C.x C.b dL_net_28 (by decide) ?_
  refine lv_iload_n C.x C.b dL_net_29 rfl (lv_at hl 1 rfl) ?_
  refine lv_imul C.x C.b dL_net_30 ?_
  refine lv_iconst (v := (nI 4)) C.x C.b dL_net_31 (by decide) ?_
  refine lv_isub C.x C.b dL_net_32 ?_
  refine lv_icmp_ne (tgt := 58) C.x C.b dL_net_33 (by decide) (fun q9 => absurd (rfl) q9) (fun _ => ?_)
  refine lv_aload_n C.x C.b dL_net_36 rfl (lv_at hl 0 rfl) ?_
  refine lv_iconst (v := (nI 3)) C.x C.b dL_net_37 (by decide) ?_
  refine k_cI (As := [.int (nI 3)]) (rest := []) (c2 := 32) (s2 := 256) (v := b) (m1 := m) C hX (iop_net hst hI (nI 3)) (e3) hI.hd (gl_up inv_X8_net) rfl ⟨rfl, hdA_X8_net⟩ (by decide) rfl hl.1 rfl (by decide) dL_net_38 ⟨Nat.le_of_ble_eq_true rfl, Nat.le_of_ble_eq_true rfl⟩ ⟨Nat.le_of_ble_eq_true rfl, Nat.le_of_ble_eq_true rfl⟩ rfl rfl (fun f H locs hX hI => ?_)
  refine lv_iload_n C.x C.b dL_net_41 rfl (lv_at hl 2 rfl) ?_
  refine lv_icmp_ne (tgt := 58) C.x C.b dL_net_42 (by decide) (fun q9 => absurd (rfl) q9) (fun _ => ?_)
  refine lv_aload_n C.x C.b dL_net_45 rfl (lv_at hl 0 rfl) ?_
  refine lv_iconst (v := (nI 4)) C.x C.b dL_net_46 (by decide) ?_
  refine k_cI (As := [.int (nI 4)]) (rest := []) (c2 := 40) (s2 := 320) (v := d) (m1 := m) C hX (iop_net hst hI (nI 4)) (e4) hI.hd (gl_up inv_X8_net) rfl ⟨rfl, hdA_X8_net⟩ (by decide) rfl hl.1 rfl (by decide) dL_net_47 ⟨Nat.le_of_ble_eq_true rfl, Nat.le_of_ble_eq_true rfl⟩ ⟨Nat.le_of_ble_eq_true rfl, Nat.le_of_ble_eq_true rfl⟩ rfl rfl (fun f H locs hX hI => ?_)
  refine lv_iload_n C.x C.b dL_net_50 rfl (lv_at hl 3 rfl) ?_
  refine lv_icmp_ne (tgt := 58) C.x C.b dL_net_51 (by decide) (fun q9 => absurd (rfl) q9) (fun _ => ?_)
  refine lv_iconst (v := (nI 1)) C.x C.b dL_net_54 (by decide) ?_
  refine lv_goto (tgt := 59) C.x C.b dL_net_55 (by decide) ?_
  exact k_zret C hX hr hlocks hQ (Nat.le_of_ble_eq_true rfl) (Nat.le_of_ble_eq_true rfl) (Or.inr rfl) ⟨rfl, hI⟩ dL_net_59
set_option maxHeartbeats 16000000 in
set_option maxRecDepth 100000 in
theorem pL_roots {l : Launch} (hst : l.stackTraces = false) {G : kG} {B0 h : Nat} {f : kH} {m : pSt} (hI : Inv G h f m) (t : Int32) (a b d y9 : Int64) (e0 : c_root m t (nI 0) = (0, a, m)) (e1 : c_root m t (nI 1) = (0, b, m)) (e2 : c_root m t (nI 2) = (0, d, m)) (e3 : c_root m t (nI 3) = (0, y9, m)) : Met l yL_roots wsP_roots rmF (kP G B0 f [.ref h, .int t, .long a, .long b, .long d, .long y9]) (kQi G B0 (fun r f1 => r = nI 1 ∧ Inv G h f1 m)) 80 640 (kAb B0) := by
  refine kMet (cc := cL_roots) (maxL := 10) (ret := (some .boolean)) (by decide) rfl (Nat.le_of_ble_eq_true rfl) ?_
  intro p e s mi args below meth c H locs Q ls C hX hl hr hlocks hnm hQ
  have hl : lv_has ls 10 [(0, .ref h), (1, .int t), (2, .long a), (4, .long b), (6, .long d), (8, .long y9)] := hl
  refine lv_aload_n C.x C.b dL_roots_0 rfl (lv_at hl 0 rfl) ?_
  refine lv_iload_n C.x C.b dL_roots_1 rfl (lv_at hl 1 rfl) ?_
  refine lv_iconst (v := (nI 0)) C.x C.b dL_roots_2 (by decide) ?_
  refine k_cJ (As := [.int t, .int (nI 0)]) (rest := []) (c2 := 8) (s2 := 64) (v := a) (m1 := m) C hX (iop_root hst hI t (nI 0)) (e0) hI.hd (gl_up inv_X8_root) rfl ⟨rfl, hdA_X8_root⟩ (by decide) rfl hl.1 rfl (by decide) dL_roots_3 ⟨Nat.le_of_ble_eq_true rfl, Nat.le_of_ble_eq_true rfl⟩ ⟨Nat.le_of_ble_eq_true rfl, Nat.le_of_ble_eq_true rfl⟩ rfl rfl (fun f H locs hX hI => ?_)
  refine lv_lload_n C.x C.b dL_roots_6 rfl (lv_at hl 2 rfl) ?_
  refine k_lcmp_ne (tgt := 51) C.x C.b dL_roots_7 dL_roots_8 (by decide) (fun q9 => absurd (rfl) q9) (fun _ => ?_)
  refine lv_aload_n C.x C.b dL_roots_11 rfl (lv_at hl 0 rfl) ?_
  refine lv_iload_n C.x C.b dL_roots_12 rfl (lv_at hl 1 rfl) ?_
  refine lv_iconst (v := (nI 1)) C.x C.b dL_roots_13 (by decide) ?_
  refine k_cJ (As := [.int t, .int (nI 1)]) (rest := []) (c2 := 16) (s2 := 128) (v := b) (m1 := m) C hX (iop_root hst hI t (nI 1)) (e1) hI.hd (gl_up inv_X8_root) rfl ⟨rfl, hdA_X8_root⟩ (by decide) rfl hl.1 rfl (by decide) dL_roots_14 ⟨Nat.le_of_ble_eq_true rfl, Nat.le_of_ble_eq_true rfl⟩ ⟨Nat.le_of_ble_eq_true rfl, Nat.le_of_ble_eq_true rfl⟩ rfl rfl (fun f H locs hX hI => ?_)
  refine lv_lload C.x C.b dL_roots_17 (lv_at hl 3 rfl) ?_
  refine k_lcmp_ne (tgt := 51) C.x C.b dL_roots_19 dL_roots_20 (by decide) (fun q9 => absurd (rfl) q9) (fun _ => ?_)
  refine lv_aload_n C.x C.b dL_roots_23 rfl (lv_at hl 0 rfl) ?_
  refine lv_iload_n C.x C.b dL_roots_24 rfl (lv_at hl 1 rfl) ?_
  refine lv_iconst (v := (nI 2)) C.x C.b dL_roots_25 (by decide) ?_
  refine k_cJ (As := [.int t, .int (nI 2)]) (rest := []) (c2 := 24) (s2 := 192) (v := d) (m1 := m) C hX (iop_root hst hI t (nI 2)) (e2) hI.hd (gl_up inv_X8_root) rfl ⟨rfl, hdA_X8_root⟩ (by decide) rfl hl.1 rfl (by decide) dL_roots_26 ⟨Nat.le_of_ble_eq_true rfl, Nat.le_of_ble_eq_true rfl⟩ ⟨Nat.le_of_ble_eq_true rfl, Nat.le_of_ble_eq_true rfl⟩ rfl rfl (fun f H locs hX hI => ?_)
  refine lv_lload C.x C.b dL_roots_29 (lv_at hl 4 rfl) ?_
  refine k_lcmp_ne (tgt := 51) C.x C.b dL_roots_31 dL_roots_32 (by decide) (fun q9 => absurd (rfl) q9) (fun _ => ?_)
  refine lv_aload_n C.x C.b dL_roots_35 rfl (lv_at hl 0 rfl) ?_
  refine lv_iload_n C.x C.b dL_roots_36 rfl (lv_at hl 1 rfl) ?_
  refine lv_iconst (v := (nI 3)) C.x C.b dL_roots_37 (by decide) ?_
  refine k_cJ (As := [.int t, .int (nI 3)]) (rest := []) (c2 := 32) (s2 := 256) (v := y9) (m1 := m) C hX (iop_root hst hI t (nI 3)) (e3) hI.hd (gl_up inv_X8_root) rfl ⟨rfl, hdA_X8_root⟩ (by decide) rfl hl.1 rfl (by decide) dL_roots_38 ⟨Nat.le_of_ble_eq_true rfl, Nat.le_of_ble_eq_true rfl⟩ ⟨Nat.le_of_ble_eq_true rfl, Nat.le_of_ble_eq_true rfl⟩ rfl rfl (fun f H locs hX hI => ?_)
  refine lv_lload C.x C.b dL_roots_41 (lv_at hl 5 rfl) ?_
  refine k_lcmp_ne (tgt := 51) C.x C.b dL_roots_43 dL_roots_44 (by decide) (fun q9 => absurd (rfl) q9) (fun _ => ?_)
  refine lv_iconst (v := (nI 1)) C.x C.b dL_roots_47 (by decide) ?_
  refine lv_goto (tgt := 52) C.x C.b dL_roots_48 (by decide) ?_
  exact k_zret C hX hr hlocks hQ (Nat.le_of_ble_eq_true rfl) (Nat.le_of_ble_eq_true rfl) (Or.inr rfl) ⟨rfl, hI⟩ dL_roots_52
set_option maxHeartbeats 16000000 in
set_option maxRecDepth 100000 in
theorem pL_count {l : Launch} (hst : l.stackTraces = false) {G : kG} {B0 h : Nat} {f : kH} {m : pSt} (hI : Inv G h f m) (t b d : Int32) (e0 : c_count m t b = (0, d, m)) (e1 : c_countAnew m t b = (0, d, m)) : Met l yL_count wsP_count rmF (kP G B0 f [.ref h, .int t, .int b, .int d]) (kQi G B0 (fun r f1 => r = nI 1 ∧ Inv G h f1 m)) 80 640 (kAb B0) := by
  refine kMet (cc := cL_count) (maxL := 4) (ret := (some .boolean)) (by decide) rfl (Nat.le_of_ble_eq_true rfl) ?_
  intro p e s mi args below meth c H locs Q ls C hX hl hr hlocks hnm hQ
  have hl : lv_has ls 4 [(0, .ref h), (1, .int t), (2, .int b), (3, .int d)] := hl
  refine lv_aload_n C.x C.b dL_count_0 rfl (lv_at hl 0 rfl) ?_
  refine lv_iload_n C.x C.b dL_count_1 rfl (lv_at hl 1 rfl) ?_
  refine lv_iload_n C.x C.b dL_count_2 rfl (lv_at hl 2 rfl) ?_
  refine k_cI (As := [.int t, .int b]) (rest := []) (c2 := 8) (s2 := 64) (v := d) (m1 := m) C hX (iop_count hst hI t b) (e0) hI.hd (gl_up inv_X8_count) rfl ⟨rfl, hdA_X8_count⟩ (by decide) rfl hl.1 rfl (by decide) dL_count_3 ⟨Nat.le_of_ble_eq_true rfl, Nat.le_of_ble_eq_true rfl⟩ ⟨Nat.le_of_ble_eq_true rfl, Nat.le_of_ble_eq_true rfl⟩ rfl rfl (fun f H locs hX hI => ?_)
  refine lv_iload_n C.x C.b dL_count_6 rfl (lv_at hl 3 rfl) ?_
  refine lv_icmp_ne (tgt := 24) C.x C.b dL_count_7 (by decide) (fun q9 => absurd (rfl) q9) (fun _ => ?_)
  refine lv_aload_n C.x C.b dL_count_10 rfl (lv_at hl 0 rfl) ?_
  refine lv_iload_n C.x C.b dL_count_11 rfl (lv_at hl 1 rfl) ?_
  refine lv_iload_n C.x C.b dL_count_12 rfl (lv_at hl 2 rfl) ?_
  refine k_cI (As := [.int t, .int b]) (rest := []) (c2 := 16) (s2 := 128) (v := d) (m1 := m) C hX (iop_countAnew hst hI t b) (e1) hI.hd (gl_up inv_X8_countAnew) rfl ⟨rfl, hdA_X8_countAnew⟩ (by decide) rfl hl.1 rfl (by decide) dL_count_13 ⟨Nat.le_of_ble_eq_true rfl, Nat.le_of_ble_eq_true rfl⟩ ⟨Nat.le_of_ble_eq_true rfl, Nat.le_of_ble_eq_true rfl⟩ rfl rfl (fun f H locs hX hI => ?_)
  refine lv_iload_n C.x C.b dL_count_16 rfl (lv_at hl 3 rfl) ?_
  refine lv_icmp_ne (tgt := 24) C.x C.b dL_count_17 (by decide) (fun q9 => absurd (rfl) q9) (fun _ => ?_)
  refine lv_iconst (v := (nI 1)) C.x C.b dL_count_20 (by decide) ?_
  refine lv_goto (tgt := 25) C.x C.b dL_count_21 (by decide) ?_
  exact k_zret C hX hr hlocks hQ (Nat.le_of_ble_eq_true rfl) (Nat.le_of_ble_eq_true rfl) (Or.inr rfl) ⟨rfl, hI⟩ dL_count_25
set_option maxHeartbeats 16000000 in
set_option maxRecDepth 100000 in
theorem pL_between {l : Launch} (hst : l.stackTraces = false) {G : kG} {B0 h : Nat} {f : kH} {m : pSt} (hI : Inv G h f m) (a b d y9 : Int32) (u w : Int64) (e0 : c_between m a b d y9 (nI 1) = (0, u, m)) (e1 : c_between m a b d y9 (nI 0) = (0, w, m)) (e2 : c_between m d y9 a b (nI 1) = (0, u, m)) (e3 : c_between m d y9 a b (nI 0) = (0, w, m)) : Met l yL_between wsP_between rmF (kP G B0 f [.ref h, .int a, .int b, .int d, .int y9, .long u, .long w]) (kQi G B0 (fun r f1 => r = nI 1 ∧ Inv G h f1 m)) 80 640 (kAb B0) := by
  refine kMet (cc := cL_between) (maxL := 9) (ret := (some .boolean)) (by decide) rfl (Nat.le_of_ble_eq_true rfl) ?_
  intro p e s mi args below meth c H locs Q ls C hX hl hr hlocks hnm hQ
  have hl : lv_has ls 9 [(0, .ref h), (1, .int a), (2, .int b), (3, .int d), (4, .int y9), (5, .long u), (7, .long w)] := hl
  refine lv_aload_n C.x C.b dL_between_0 rfl (lv_at hl 0 rfl) ?_
  refine lv_iload_n C.x C.b dL_between_1 rfl (lv_at hl 1 rfl) ?_
  refine lv_iload_n C.x C.b dL_between_2 rfl (lv_at hl 2 rfl) ?_
  refine lv_iload_n C.x C.b dL_between_3 rfl (lv_at hl 3 rfl) ?_
  refine lv_iload C.x C.b dL_between_4 (lv_at hl 4 rfl) ?_
  refine lv_iconst (v := (nI 1)) C.x C.b dL_between_6 (by decide) ?_
  refine k_cJ (As := [.int a, .int b, .int d, .int y9, .int (nI 1)]) (rest := []) (c2 := 8) (s2 := 64) (v := u) (m1 := m) C hX (iop_between hst hI a b d y9 (nI 1)) (e0) hI.hd (gl_up inv_X8_between) rfl ⟨rfl, hdA_X8_between⟩ (by decide) rfl hl.1 rfl (by decide) dL_between_7 ⟨Nat.le_of_ble_eq_true rfl, Nat.le_of_ble_eq_true rfl⟩ ⟨Nat.le_of_ble_eq_true rfl, Nat.le_of_ble_eq_true rfl⟩ rfl rfl (fun f H locs hX hI => ?_)
  refine lv_lload C.x C.b dL_between_10 (lv_at hl 5 rfl) ?_
  refine k_lcmp_ne (tgt := 68) C.x C.b dL_between_12 dL_between_13 (by decide) (fun q9 => absurd (rfl) q9) (fun _ => ?_)
  refine lv_aload_n C.x C.b dL_between_16 rfl (lv_at hl 0 rfl) ?_
  refine lv_iload_n C.x C.b dL_between_17 rfl (lv_at hl 1 rfl) ?_
  refine lv_iload_n C.x C.b dL_between_18 rfl (lv_at hl 2 rfl) ?_
  refine lv_iload_n C.x C.b dL_between_19 rfl (lv_at hl 3 rfl) ?_
  refine lv_iload C.x C.b dL_between_20 (lv_at hl 4 rfl) ?_
  refine lv_iconst (v := (nI 0)) C.x C.b dL_between_22 (by decide) ?_
  refine k_cJ (As := [.int a, .int b, .int d, .int y9, .int (nI 0)]) (rest := []) (c2 := 16) (s2 := 128) (v := w) (m1 := m) C hX (iop_between hst hI a b d y9 (nI 0)) (e1) hI.hd (gl_up inv_X8_between) rfl ⟨rfl, hdA_X8_between⟩ (by decide) rfl hl.1 rfl (by decide) dL_between_23 ⟨Nat.le_of_ble_eq_true rfl, Nat.le_of_ble_eq_true rfl⟩ ⟨Nat.le_of_ble_eq_true rfl, Nat.le_of_ble_eq_true rfl⟩ rfl rfl (fun f H locs hX hI => ?_)
  refine lv_lload C.x C.b dL_between_26 (lv_at hl 6 rfl) ?_
  refine k_lcmp_ne (tgt := 68) C.x C.b dL_between_28 dL_between_29 (by decide) (fun q9 => absurd (rfl) q9) (fun _ => ?_)
  refine lv_aload_n C.x C.b dL_between_32 rfl (lv_at hl 0 rfl) ?_
  refine lv_iload_n C.x C.b dL_between_33 rfl (lv_at hl 3 rfl) ?_
  refine lv_iload C.x C.b dL_between_34 (lv_at hl 4 rfl) ?_
  refine lv_iload_n C.x C.b dL_between_36 rfl (lv_at hl 1 rfl) ?_
  refine lv_iload_n C.x C.b dL_between_37 rfl (lv_at hl 2 rfl) ?_
  refine lv_iconst (v := (nI 1)) C.x C.b dL_between_38 (by decide) ?_
  refine k_cJ (As := [.int d, .int y9, .int a, .int b, .int (nI 1)]) (rest := []) (c2 := 24) (s2 := 192) (v := u) (m1 := m) C hX (iop_between hst hI d y9 a b (nI 1)) (e2) hI.hd (gl_up inv_X8_between) rfl ⟨rfl, hdA_X8_between⟩ (by decide) rfl hl.1 rfl (by decide) dL_between_39 ⟨Nat.le_of_ble_eq_true rfl, Nat.le_of_ble_eq_true rfl⟩ ⟨Nat.le_of_ble_eq_true rfl, Nat.le_of_ble_eq_true rfl⟩ rfl rfl (fun f H locs hX hI => ?_)
  refine lv_lload C.x C.b dL_between_42 (lv_at hl 5 rfl) ?_
  refine k_lcmp_ne (tgt := 68) C.x C.b dL_between_44 dL_between_45 (by decide) (fun q9 => absurd (rfl) q9) (fun _ => ?_)
  refine lv_aload_n C.x C.b dL_between_48 rfl (lv_at hl 0 rfl) ?_
  refine lv_iload_n C.x C.b dL_between_49 rfl (lv_at hl 3 rfl) ?_
  refine lv_iload C.x C.b dL_between_50 (lv_at hl 4 rfl) ?_
  refine lv_iload_n C.x C.b dL_between_52 rfl (lv_at hl 1 rfl) ?_
  refine lv_iload_n C.x C.b dL_between_53 rfl (lv_at hl 2 rfl) ?_
  refine lv_iconst (v := (nI 0)) C.x C.b dL_between_54 (by decide) ?_
  refine k_cJ (As := [.int d, .int y9, .int a, .int b, .int (nI 0)]) (rest := []) (c2 := 32) (s2 := 256) (v := w) (m1 := m) C hX (iop_between hst hI d y9 a b (nI 0)) (e3) hI.hd (gl_up inv_X8_between) rfl ⟨rfl, hdA_X8_between⟩ (by decide) rfl hl.1 rfl (by decide) dL_between_55 ⟨Nat.le_of_ble_eq_true rfl, Nat.le_of_ble_eq_true rfl⟩ ⟨Nat.le_of_ble_eq_true rfl, Nat.le_of_ble_eq_true rfl⟩ rfl rfl (fun f H locs hX hI => ?_)
  refine lv_lload C.x C.b dL_between_58 (lv_at hl 6 rfl) ?_
  refine k_lcmp_ne (tgt := 68) C.x C.b dL_between_60 dL_between_61 (by decide) (fun q9 => absurd (rfl) q9) (fun _ => ?_)
  refine lv_iconst (v := (nI 1)) C.x C.b dL_between_64 (by decide) ?_
  refine lv_goto (tgt := 69) C.x C.b dL_between_65 (by decide) ?_
  exact k_zret C hX hr hlocks hQ (Nat.le_of_ble_eq_true rfl) (Nat.le_of_ble_eq_true rfl) (Or.inr rfl) ⟨rfl, hI⟩ dL_between_69
set_option maxHeartbeats 16000000 in
set_option maxRecDepth 100000 in
theorem pL_word {l : Launch} (hst : l.stackTraces = false) {G : kG} {B0 h : Nat} {f : kH} {m : pSt} (hI : Inv G h f m) (a b d y9 z9 : Int32) (e0 : c_word m (nI 0) = (0, a, m)) (e1 : c_word m (nI 1) = (0, b, m)) (e2 : c_word m (nI 2) = (0, d, m)) (e3 : c_word m (nI 3) = (0, y9, m)) (e4 : c_word m (nI 4) = (0, z9, m)) : Met l yL_word wsP_word rmF (kP G B0 f [.ref h, .int a, .int b, .int d, .int y9, .int z9]) (kQi G B0 (fun r f1 => r = nI 1 ∧ Inv G h f1 m)) 80 640 (kAb B0) := by
  refine kMet (cc := cL_word) (maxL := 6) (ret := (some .boolean)) (by decide) rfl (Nat.le_of_ble_eq_true rfl) ?_
  intro p e s mi args below meth c H locs Q ls C hX hl hr hlocks hnm hQ
  have hl : lv_has ls 6 [(0, .ref h), (1, .int a), (2, .int b), (3, .int d), (4, .int y9), (5, .int z9)] := hl
  refine lv_aload_n C.x C.b dL_word_0 rfl (lv_at hl 0 rfl) ?_
  refine lv_iconst (v := (nI 0)) C.x C.b dL_word_1 (by decide) ?_
  refine k_cI (As := [.int (nI 0)]) (rest := []) (c2 := 8) (s2 := 64) (v := a) (m1 := m) C hX (iop_word hst hI (nI 0)) (e0) hI.hd (gl_up inv_X8_word) rfl ⟨rfl, hdA_X8_word⟩ (by decide) rfl hl.1 rfl (by decide) dL_word_2 ⟨Nat.le_of_ble_eq_true rfl, Nat.le_of_ble_eq_true rfl⟩ ⟨Nat.le_of_ble_eq_true rfl, Nat.le_of_ble_eq_true rfl⟩ rfl rfl (fun f H locs hX hI => ?_)
  refine lv_iload_n C.x C.b dL_word_5 rfl (lv_at hl 1 rfl) ?_
  refine lv_icmp_ne (tgt := 51) C.x C.b dL_word_6 (by decide) (fun q9 => absurd (rfl) q9) (fun _ => ?_)
  refine lv_aload_n C.x C.b dL_word_9 rfl (lv_at hl 0 rfl) ?_
  refine lv_iconst (v := (nI 1)) C.x C.b dL_word_10 (by decide) ?_
  refine k_cI (As := [.int (nI 1)]) (rest := []) (c2 := 16) (s2 := 128) (v := b) (m1 := m) C hX (iop_word hst hI (nI 1)) (e1) hI.hd (gl_up inv_X8_word) rfl ⟨rfl, hdA_X8_word⟩ (by decide) rfl hl.1 rfl (by decide) dL_word_11 ⟨Nat.le_of_ble_eq_true rfl, Nat.le_of_ble_eq_true rfl⟩ ⟨Nat.le_of_ble_eq_true rfl, Nat.le_of_ble_eq_true rfl⟩ rfl rfl (fun f H locs hX hI => ?_)
  refine lv_iload_n C.x C.b dL_word_14 rfl (lv_at hl 2 rfl) ?_
  refine lv_icmp_ne (tgt := 51) C.x C.b dL_word_15 (by decide) (fun q9 => absurd (rfl) q9) (fun _ => ?_)
  refine lv_aload_n C.x C.b dL_word_18 rfl (lv_at hl 0 rfl) ?_
  refine lv_iconst (v := (nI 2)) C.x C.b dL_word_19 (by decide) ?_
  refine k_cI (As := [.int (nI 2)]) (rest := []) (c2 := 24) (s2 := 192) (v := d) (m1 := m) C hX (iop_word hst hI (nI 2)) (e2) hI.hd (gl_up inv_X8_word) rfl ⟨rfl, hdA_X8_word⟩ (by decide) rfl hl.1 rfl (by decide) dL_word_20 ⟨Nat.le_of_ble_eq_true rfl, Nat.le_of_ble_eq_true rfl⟩ ⟨Nat.le_of_ble_eq_true rfl, Nat.le_of_ble_eq_true rfl⟩ rfl rfl (fun f H locs hX hI => ?_)
  refine lv_iload_n C.x C.b dL_word_23 rfl (lv_at hl 3 rfl) ?_
  refine lv_icmp_ne (tgt := 51) C.x C.b dL_word_24 (by decide) (fun q9 => absurd (rfl) q9) (fun _ => ?_)
  refine lv_aload_n C.x C.b dL_word_27 rfl (lv_at hl 0 rfl) ?_
  refine lv_iconst (v := (nI 3)) C.x C.b dL_word_28 (by decide) ?_
  refine k_cI (As := [.int (nI 3)]) (rest := []) (c2 := 32) (s2 := 256) (v := y9) (m1 := m) C hX (iop_word hst hI (nI 3)) (e3) hI.hd (gl_up inv_X8_word) rfl ⟨rfl, hdA_X8_word⟩ (by decide) rfl hl.1 rfl (by decide) dL_word_29 ⟨Nat.le_of_ble_eq_true rfl, Nat.le_of_ble_eq_true rfl⟩ ⟨Nat.le_of_ble_eq_true rfl, Nat.le_of_ble_eq_true rfl⟩ rfl rfl (fun f H locs hX hI => ?_)
  refine lv_iload C.x C.b dL_word_32 (lv_at hl 4 rfl) ?_
  refine lv_icmp_ne (tgt := 51) C.x C.b dL_word_34 (by decide) (fun q9 => absurd (rfl) q9) (fun _ => ?_)
  refine lv_aload_n C.x C.b dL_word_37 rfl (lv_at hl 0 rfl) ?_
  refine lv_iconst (v := (nI 4)) C.x C.b dL_word_38 (by decide) ?_
  refine k_cI (As := [.int (nI 4)]) (rest := []) (c2 := 40) (s2 := 320) (v := z9) (m1 := m) C hX (iop_word hst hI (nI 4)) (e4) hI.hd (gl_up inv_X8_word) rfl ⟨rfl, hdA_X8_word⟩ (by decide) rfl hl.1 rfl (by decide) dL_word_39 ⟨Nat.le_of_ble_eq_true rfl, Nat.le_of_ble_eq_true rfl⟩ ⟨Nat.le_of_ble_eq_true rfl, Nat.le_of_ble_eq_true rfl⟩ rfl rfl (fun f H locs hX hI => ?_)
  refine lv_iload C.x C.b dL_word_42 (lv_at hl 5 rfl) ?_
  refine lv_icmp_ne (tgt := 51) C.x C.b dL_word_44 (by decide) (fun q9 => absurd (rfl) q9) (fun _ => ?_)
  refine lv_iconst (v := (nI 1)) C.x C.b dL_word_47 (by decide) ?_
  refine lv_goto (tgt := 52) C.x C.b dL_word_48 (by decide) ?_
  exact k_zret C hX hr hlocks hQ (Nat.le_of_ble_eq_true rfl) (Nat.le_of_ble_eq_true rfl) (Or.inr rfl) ⟨rfl, hI⟩ dL_word_52
set_option maxHeartbeats 16000000 in
set_option maxRecDepth 100000 in
theorem pL_image {l : Launch} (hst : l.stackTraces = false) {G : kG} {B0 h : Nat} {f : kH} {m : pSt} (hI : Inv G h f m) (a b : Int32) (u w : Int64) (e0 : c_image m a b (nI 1) = (0, u, m)) (e1 : c_image m a b (nI 0) = (0, w, m)) : Met l yL_image wsP_image rmF (kP G B0 f [.ref h, .int a, .int b, .long u, .long w]) (kQi G B0 (fun r f1 => r = nI 1 ∧ Inv G h f1 m)) 80 640 (kAb B0) := by
  refine kMet (cc := cL_image) (maxL := 7) (ret := (some .boolean)) (by decide) rfl (Nat.le_of_ble_eq_true rfl) ?_
  intro p e s mi args below meth c H locs Q ls C hX hl hr hlocks hnm hQ
  have hl : lv_has ls 7 [(0, .ref h), (1, .int a), (2, .int b), (3, .long u), (5, .long w)] := hl
  refine lv_aload_n C.x C.b dL_image_0 rfl (lv_at hl 0 rfl) ?_
  refine lv_iload_n C.x C.b dL_image_1 rfl (lv_at hl 1 rfl) ?_
  refine lv_iload_n C.x C.b dL_image_2 rfl (lv_at hl 2 rfl) ?_
  refine lv_iconst (v := (nI 1)) C.x C.b dL_image_3 (by decide) ?_
  refine k_cJ (As := [.int a, .int b, .int (nI 1)]) (rest := []) (c2 := 8) (s2 := 64) (v := u) (m1 := m) C hX (iop_image hst hI a b (nI 1)) (e0) hI.hd (gl_up inv_X8_image) rfl ⟨rfl, hdA_X8_image⟩ (by decide) rfl hl.1 rfl (by decide) dL_image_4 ⟨Nat.le_of_ble_eq_true rfl, Nat.le_of_ble_eq_true rfl⟩ ⟨Nat.le_of_ble_eq_true rfl, Nat.le_of_ble_eq_true rfl⟩ rfl rfl (fun f H locs hX hI => ?_)
  refine lv_lload_n C.x C.b dL_image_7 rfl (lv_at hl 3 rfl) ?_
  refine k_lcmp_ne (tgt := 29) C.x C.b dL_image_8 dL_image_9 (by decide) (fun q9 => absurd (rfl) q9) (fun _ => ?_)
  refine lv_aload_n C.x C.b dL_image_12 rfl (lv_at hl 0 rfl) ?_
  refine lv_iload_n C.x C.b dL_image_13 rfl (lv_at hl 1 rfl) ?_
  refine lv_iload_n C.x C.b dL_image_14 rfl (lv_at hl 2 rfl) ?_
  refine lv_iconst (v := (nI 0)) C.x C.b dL_image_15 (by decide) ?_
  refine k_cJ (As := [.int a, .int b, .int (nI 0)]) (rest := []) (c2 := 16) (s2 := 128) (v := w) (m1 := m) C hX (iop_image hst hI a b (nI 0)) (e1) hI.hd (gl_up inv_X8_image) rfl ⟨rfl, hdA_X8_image⟩ (by decide) rfl hl.1 rfl (by decide) dL_image_16 ⟨Nat.le_of_ble_eq_true rfl, Nat.le_of_ble_eq_true rfl⟩ ⟨Nat.le_of_ble_eq_true rfl, Nat.le_of_ble_eq_true rfl⟩ rfl rfl (fun f H locs hX hI => ?_)
  refine lv_lload C.x C.b dL_image_19 (lv_at hl 4 rfl) ?_
  refine k_lcmp_ne (tgt := 29) C.x C.b dL_image_21 dL_image_22 (by decide) (fun q9 => absurd (rfl) q9) (fun _ => ?_)
  refine lv_iconst (v := (nI 1)) C.x C.b dL_image_25 (by decide) ?_
  refine lv_goto (tgt := 30) C.x C.b dL_image_26 (by decide) ?_
  exact k_zret C hX hr hlocks hQ (Nat.le_of_ble_eq_true rfl) (Nat.le_of_ble_eq_true rfl) (Or.inr rfl) ⟨rfl, hI⟩ dL_image_30
set_option maxHeartbeats 16000000 in
set_option maxRecDepth 100000 in
theorem pL_rectangle {l : Launch} (hst : l.stackTraces = false) {G : kG} {B0 h : Nat} {f : kH} {m : pSt} (hI : Inv G h f m) (a b u0 u1 u2 u3 : Int32) (e0 : c_side m a b (-1) = (0, u0, m)) (e1 : c_side m a b (nI 0) = (0, u1, m)) (e2 : c_side m a b (nI 1) = (0, u2, m)) (e3 : c_side m a b (nI 2) = (0, u3, m)) : Met l yL_rectangle wsP_rectangle rmF (kP G B0 f [.ref h, .int a, .int b, .int u0, .int u1, .int u2, .int u3]) (kQi G B0 (fun r f1 => r = nI 1 ∧ Inv G h f1 m)) 80 640 (kAb B0) := by
  refine kMet (cc := cL_rectangle) (maxL := 7) (ret := (some .boolean)) (by decide) rfl (Nat.le_of_ble_eq_true rfl) ?_
  intro p e s mi args below meth c H locs Q ls C hX hl hr hlocks hnm hQ
  have hl : lv_has ls 7 [(0, .ref h), (1, .int a), (2, .int b), (3, .int u0), (4, .int u1), (5, .int u2), (6, .int u3)] := hl
  refine lv_aload_n C.x C.b dL_rectangle_0 rfl (lv_at hl 0 rfl) ?_
  refine lv_iload_n C.x C.b dL_rectangle_1 rfl (lv_at hl 1 rfl) ?_
  refine lv_iload_n C.x C.b dL_rectangle_2 rfl (lv_at hl 2 rfl) ?_
  refine lv_iconst (v := (-1)) C.x C.b dL_rectangle_3 (by decide) ?_
  refine k_cI (As := [.int a, .int b, .int (-1)]) (rest := []) (c2 := 8) (s2 := 64) (v := u0) (m1 := m) C hX (iop_side hst hI a b (-1)) (e0) hI.hd (gl_up inv_X8_side) rfl ⟨rfl, hdA_X8_side⟩ (by decide) rfl hl.1 rfl (by decide) dL_rectangle_4 ⟨Nat.le_of_ble_eq_true rfl, Nat.le_of_ble_eq_true rfl⟩ ⟨Nat.le_of_ble_eq_true rfl, Nat.le_of_ble_eq_true rfl⟩ rfl rfl (fun f H locs hX hI => ?_)
  refine lv_iload_n C.x C.b dL_rectangle_7 rfl (lv_at hl 3 rfl) ?_
  refine lv_icmp_ne (tgt := 51) C.x C.b dL_rectangle_8 (by decide) (fun q9 => absurd (rfl) q9) (fun _ => ?_)
  refine lv_aload_n C.x C.b dL_rectangle_11 rfl (lv_at hl 0 rfl) ?_
  refine lv_iload_n C.x C.b dL_rectangle_12 rfl (lv_at hl 1 rfl) ?_
  refine lv_iload_n C.x C.b dL_rectangle_13 rfl (lv_at hl 2 rfl) ?_
  refine lv_iconst (v := (nI 0)) C.x C.b dL_rectangle_14 (by decide) ?_
  refine k_cI (As := [.int a, .int b, .int (nI 0)]) (rest := []) (c2 := 16) (s2 := 128) (v := u1) (m1 := m) C hX (iop_side hst hI a b (nI 0)) (e1) hI.hd (gl_up inv_X8_side) rfl ⟨rfl, hdA_X8_side⟩ (by decide) rfl hl.1 rfl (by decide) dL_rectangle_15 ⟨Nat.le_of_ble_eq_true rfl, Nat.le_of_ble_eq_true rfl⟩ ⟨Nat.le_of_ble_eq_true rfl, Nat.le_of_ble_eq_true rfl⟩ rfl rfl (fun f H locs hX hI => ?_)
  refine lv_iload C.x C.b dL_rectangle_18 (lv_at hl 4 rfl) ?_
  refine lv_icmp_ne (tgt := 51) C.x C.b dL_rectangle_20 (by decide) (fun q9 => absurd (rfl) q9) (fun _ => ?_)
  refine lv_aload_n C.x C.b dL_rectangle_23 rfl (lv_at hl 0 rfl) ?_
  refine lv_iload_n C.x C.b dL_rectangle_24 rfl (lv_at hl 1 rfl) ?_
  refine lv_iload_n C.x C.b dL_rectangle_25 rfl (lv_at hl 2 rfl) ?_
  refine lv_iconst (v := (nI 1)) C.x C.b dL_rectangle_26 (by decide) ?_
  refine k_cI (As := [.int a, .int b, .int (nI 1)]) (rest := []) (c2 := 24) (s2 := 192) (v := u2) (m1 := m) C hX (iop_side hst hI a b (nI 1)) (e2) hI.hd (gl_up inv_X8_side) rfl ⟨rfl, hdA_X8_side⟩ (by decide) rfl hl.1 rfl (by decide) dL_rectangle_27 ⟨Nat.le_of_ble_eq_true rfl, Nat.le_of_ble_eq_true rfl⟩ ⟨Nat.le_of_ble_eq_true rfl, Nat.le_of_ble_eq_true rfl⟩ rfl rfl (fun f H locs hX hI => ?_)
  refine lv_iload C.x C.b dL_rectangle_30 (lv_at hl 5 rfl) ?_
  refine lv_icmp_ne (tgt := 51) C.x C.b dL_rectangle_32 (by decide) (fun q9 => absurd (rfl) q9) (fun _ => ?_)
  refine lv_aload_n C.x C.b dL_rectangle_35 rfl (lv_at hl 0 rfl) ?_
  refine lv_iload_n C.x C.b dL_rectangle_36 rfl (lv_at hl 1 rfl) ?_
  refine lv_iload_n C.x C.b dL_rectangle_37 rfl (lv_at hl 2 rfl) ?_
  refine lv_iconst (v := (nI 2)) C.x C.b dL_rectangle_38 (by decide) ?_
  refine k_cI (As := [.int a, .int b, .int (nI 2)]) (rest := []) (c2 := 32) (s2 := 256) (v := u3) (m1 := m) C hX (iop_side hst hI a b (nI 2)) (e3) hI.hd (gl_up inv_X8_side) rfl ⟨rfl, hdA_X8_side⟩ (by decide) rfl hl.1 rfl (by decide) dL_rectangle_39 ⟨Nat.le_of_ble_eq_true rfl, Nat.le_of_ble_eq_true rfl⟩ ⟨Nat.le_of_ble_eq_true rfl, Nat.le_of_ble_eq_true rfl⟩ rfl rfl (fun f H locs hX hI => ?_)
  refine lv_iload C.x C.b dL_rectangle_42 (lv_at hl 6 rfl) ?_
  refine lv_icmp_ne (tgt := 51) C.x C.b dL_rectangle_44 (by decide) (fun q9 => absurd (rfl) q9) (fun _ => ?_)
  refine lv_iconst (v := (nI 1)) C.x C.b dL_rectangle_47 (by decide) ?_
  refine lv_goto (tgt := 52) C.x C.b dL_rectangle_48 (by decide) ?_
  exact k_zret C hX hr hlocks hQ (Nat.le_of_ble_eq_true rfl) (Nat.le_of_ble_eq_true rfl) (Or.inr rfl) ⟨rfl, hI⟩ dL_rectangle_52
set_option maxHeartbeats 16000000 in
set_option maxRecDepth 100000 in
theorem pL_trees {l : Launch} (hst : l.stackTraces = false) {G : kG} {B0 h : Nat} {f : kH} {m : pSt} (hI : Inv G h f m) (a : Int32) (e0 : c_trees m = (0, a, m)) (e1 : c_treesAnew m = (0, a, m)) : Met l yL_trees wsP_trees rmF (kP G B0 f [.ref h, .int a]) (kQi G B0 (fun r f1 => r = nI 1 ∧ Inv G h f1 m)) 80 640 (kAb B0) := by
  refine kMet (cc := cL_trees) (maxL := 2) (ret := (some .boolean)) (by decide) rfl (Nat.le_of_ble_eq_true rfl) ?_
  intro p e s mi args below meth c H locs Q ls C hX hl hr hlocks hnm hQ
  have hl : lv_has ls 2 [(0, .ref h), (1, .int a)] := hl
  refine lv_aload_n C.x C.b dL_trees_0 rfl (lv_at hl 0 rfl) ?_
  refine k_cI (As := []) (rest := []) (c2 := 8) (s2 := 64) (v := a) (m1 := m) C hX (iop_trees hst hI) (e0) hI.hd (gl_up inv_X8_trees) rfl ⟨rfl, hdA_X8_trees⟩ (by decide) rfl hl.1 rfl (by decide) dL_trees_1 ⟨Nat.le_of_ble_eq_true rfl, Nat.le_of_ble_eq_true rfl⟩ ⟨Nat.le_of_ble_eq_true rfl, Nat.le_of_ble_eq_true rfl⟩ rfl rfl (fun f H locs hX hI => ?_)
  refine lv_iload_n C.x C.b dL_trees_4 rfl (lv_at hl 1 rfl) ?_
  refine lv_icmp_ne (tgt := 20) C.x C.b dL_trees_5 (by decide) (fun q9 => absurd (rfl) q9) (fun _ => ?_)
  refine lv_aload_n C.x C.b dL_trees_8 rfl (lv_at hl 0 rfl) ?_
  refine k_cI (As := []) (rest := []) (c2 := 16) (s2 := 128) (v := a) (m1 := m) C hX (iop_treesAnew hst hI) (e1) hI.hd (gl_up inv_X8_treesAnew) rfl ⟨rfl, hdA_X8_treesAnew⟩ (by decide) rfl hl.1 rfl (by decide) dL_trees_9 ⟨Nat.le_of_ble_eq_true rfl, Nat.le_of_ble_eq_true rfl⟩ ⟨Nat.le_of_ble_eq_true rfl, Nat.le_of_ble_eq_true rfl⟩ rfl rfl (fun f H locs hX hI => ?_)
  refine lv_iload_n C.x C.b dL_trees_12 rfl (lv_at hl 1 rfl) ?_
  refine lv_icmp_ne (tgt := 20) C.x C.b dL_trees_13 (by decide) (fun q9 => absurd (rfl) q9) (fun _ => ?_)
  refine lv_iconst (v := (nI 1)) C.x C.b dL_trees_16 (by decide) ?_
  refine lv_goto (tgt := 21) C.x C.b dL_trees_17 (by decide) ?_
  exact k_zret C hX hr hlocks hQ (Nat.le_of_ble_eq_true rfl) (Nat.le_of_ble_eq_true rfl) (Or.inr rfl) ⟨rfl, hI⟩ dL_trees_21
