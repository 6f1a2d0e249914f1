/-! the law's loop -/
theorem jU8 (x : Int32) : ∃ n, n < 16777216 ∧ jU x (nI 8) = nI n := by
  have h1 : (jU x (nI 8)).toBitVec.toNat = x.toBitVec.toNat / 2 ^ 8 := pk_ushr x (nI 8) 8 (by decide)
  have h2 := x.toBitVec.isLt
  refine ⟨x.toBitVec.toNat / 256, by omega, Int32.toBitVec_inj.mp (BitVec.eq_of_toNat_eq ?_)⟩
  rw [h1, pk_tn (by omega)]
section KLO
variable {p : Program} {l : Launch} {e : Env} {R : Room} {s : State} {mi : MethodId} {args : Array Value} {below : List Frame} {meth : Method} {c : Code} {Q : State → Prop}
variable {G : kG} {B0 h b L : Nat} {xs : Nat → Int32}
set_option maxHeartbeats 8000000 in
set_option maxRecDepth 20000 in
theorem law_loop (hst : l.stackTraces = false) (C : kC G B0 p mi c cL_law 18 s args wsL_law RL) (hXs : va_X b L xs s s.heap) (hbl : b < s.heap.size) (hbA : ¬ kAb B0 b) (hL : L ≤ 260) (hR : 400 ≤ R.frames ∧ 24000 ≤ R.locals) (hRc : 460000 ≤ R.cells ∧ 3700000 ≤ R.slots)
    (E : ∀ (f : kH) (H : Heap) (locs : List Loc) (ls : Array Slot), kX G B0 s f H locs → W p l e R s mi args below meth c H locs 460000 3700000 Q (F0 mi 1238 ls [])) :
    ∀ (n i : Nat) (f : kH) (H : Heap) (locs : List Loc) (cells slots : Nat) (m : pSt) (ls : Array Slot), i ≤ 70 → 71 ≤ i + n → cells ≤ 71000 + i * 5400 → slots ≤ 570000 + i * 43000 → kX G B0 s f H locs → Inv G h f m → dInv m → lv_has ls 18 (lwB b h m i) → W p l e R s mi args below meth c H locs cells slots Q (F0 mi 32 ls []) := by
  intro n
  induction n with
  | zero =>
    intro i f H locs cells slots m ls hi hn
    exact absurd hn (by omega)
  | succ n ih =>
    intro i f H locs cells slots m ls hi hn hc9 hs9 hX hI hd hl
    refine lv_iload C.x C.b dL_law_32 (lv_at hl 7 rfl) ?_
    refine lv_bipush (v := nI 70) C.x C.b dL_law_34 (by decide) ?_
    refine lv_icmp_ge (tgt := 1238) C.x C.b dL_law_36 (by decide) (fun _ => ?_) (fun q70 => ?_)
    · exact W.widen (k := 460000) (n := 3700000) (by omega) (by omega) (E f H locs ls hX)
    have hi70 : i < 70 := by
      rcases Nat.lt_or_ge i 70 with z | z
      · exact z
      · exact absurd (nI_le z (by omega)) q70
    have hcl : cells + 2000 ≤ R.cells ∧ slots + 16000 ≤ R.slots := ⟨by omega, by omega⟩
    have K : ∀ (f1 : kH) (H1 : Heap) (locs1 : List Loc) (m1 : pSt) (ls1 : Array Slot), kX G B0 s f1 H1 locs1 → Inv G h f1 m1 → dInv m1 → lv_has ls1 18 (lwB b h m1 i) → W p l e R s mi args below meth c H1 locs1 (cells + 2000) (slots + 16000) Q (F0 mi 1207 ls1 []) := by
      intro f1 H1 locs1 m1 ls1 hX1 hI1 hd1 hl1
      have J : ∀ (f2 : kH) (H2 : Heap) (locs2 : List Loc) (ls2 : Array Slot), kX G B0 s f2 H2 locs2 → Inv G h f2 m1 → lv_has ls2 18 (lwB b h m1 i) → W p l e R s mi args below meth c H2 locs2 (cells + 5300) (slots + 42400) Q (F0 mi 1232 ls2 []) := by
        intro f2 H2 locs2 ls2 hX2 hI2 hl2
        refine lv_iinc (v := nI (i + 1)) (lv' := [(7, .int (nI (i + 1))), (0, .ref b), (1, .ref h), (2, .int (nI m1.nd)), (3, .int (nI m1.ng)), (4, .int (nI m1.nm)), (5, .int (nI m1.nc)), (6, .int (nI m1.nw))]) C.x C.b dL_law_1232 hl2 (k := 7) rfl (nI_1 _) (by decide) rfl (fun ls hl => ?_)
        refine lv_goto (tgt := 32) C.x C.b dL_law_1235 (by decide) ?_
        exact ih (i + 1) f2 H2 locs2 _ _ m1 ls (by omega) (by omega) (by omega) (by omega) hX2 hI2 hd1 (lv_sub hl [1, 2, 3, 4, 5, 6, 7, 0] rfl)
      refine lv_iload C.x C.b dL_law_1207 (lv_at hl1 7 rfl) ?_
      refine lv_bipush (v := nI 16) C.x C.b dL_law_1209 (by decide) ?_
      refine lv_irem C.x C.b dL_law_1211 (by decide) ?_
      refine k_topi (y := nI (i % 16)) (pk_rem (by omega) (by omega) (by omega)) ?_
      refine lv_if_ne (tgt := 1232) C.x C.b dL_law_1212 (by decide) (fun _ => ?_) (fun _ => ?_)
      · exact W.widen (k := cells + 5300) (n := slots + 42400) (by omega) (by omega) (J f1 H1 locs1 ls1 hX1 hI1 hl1)
      refine lv_aload_n C.x C.b dL_law_1215 rfl (lv_at hl1 1 rfl) ?_
      refine lv_iload_n C.x C.b dL_law_1216 rfl (lv_at hl1 2 rfl) ?_
      refine lv_iload_n C.x C.b dL_law_1217 rfl (lv_at hl1 3 rfl) ?_
      refine lv_iload C.x C.b dL_law_1218 (lv_at hl1 4 rfl) ?_
      refine lv_iload C.x C.b dL_law_1220 (lv_at hl1 5 rfl) ?_
      refine lv_iload C.x C.b dL_law_1222 (lv_at hl1 6 rfl) ?_
      refine k_law (As := [.ref h, .int (nI m1.nd), .int (nI m1.ng), .int (nI m1.nm), .int (nI m1.nc), .int (nI m1.nw)]) (rest := []) (c2 := cells + 5300) (s2 := slots + 42400) (m1 := m1) C hX1 (pL_refuses hst hI1) (gl_same inv_L_refuses) rfl rfl rfl hdP_L_refuses ⟨Nat.le_trans (show rmR.frames + 1 ≤ 400 by decide) hR.1, Nat.le_trans (show 8 + (24 + 11) + rmR.locals ≤ 24000 by decide) hR.2⟩ rfl hl1.1 rfl (Nat.le_of_ble_eq_true rfl) dL_law_1224 ⟨by omega, by omega⟩ (by omega) (by omega) (fun f2 H2 locs2 hX2 hI2 => ?_)
      refine lv_if_ne (tgt := 1232) C.x C.b dL_law_1227 (by decide) (fun _ => ?_) (fun q9 => absurd q9 (by decide))
      exact J f2 H2 locs2 ls1 hX2 hI2 hl1
    have J62 : ∀ (x : Nat) (ls : Array Slot), x < 16777216 → lv_has ls 18 (lwB b h m i) → W p l e R s mi args below meth c H locs cells slots Q (F0 mi 62 ls [.int (nI x)]) := by
      intro x ls hx hl
      refine lv_istore (lv' := (8, .int (nI x)) :: lwB b h m i) C.x C.b dL_law_62 hl (by decide) rfl (fun ls hl => ?_)
      refine lv_iload C.x C.b dL_law_64 (lv_at hl 0 rfl) ?_
      refine lv_bipush (v := nI 13) C.x C.b dL_law_66 (by decide) ?_
      refine lv_irem C.x C.b dL_law_68 (by decide) ?_
      obtain ⟨w, hw, ew⟩ : ∃ w, w < 13 ∧ x % 13 = w := ⟨_, Nat.mod_lt _ (by decide), rfl⟩
      refine k_topi (y := nI w) ((pk_rem (by omega) (by omega) (by omega)).trans (congrArg nI ew)) ?_
      refine lv_istore (lv' := (9, .int (nI w)) :: (8, .int (nI x)) :: lwB b h m i) C.x C.b dL_law_69 hl (by decide) rfl (fun ls hl => ?_)
      refine lv_iload C.x C.b dL_law_71 (lv_at hl 1 rfl) ?_
      refine lv_bipush (v := nI 13) C.x C.b dL_law_73 (by decide) ?_
      refine lv_idiv C.x C.b dL_law_75 (by decide) ?_
      obtain ⟨y, hy, ey⟩ : ∃ y, y < 16777216 ∧ x / 13 = y := ⟨_, by omega, rfl⟩
      refine k_topi (y := nI y) ((pk_div (by omega) (by omega) (by omega)).trans (congrArg nI ey)) ?_
      refine lv_istore (lv' := (10, .int (nI y)) :: (9, .int (nI w)) :: (8, .int (nI x)) :: lwB b h m i) C.x C.b dL_law_76 hl (by decide) rfl (fun ls hl => ?_)
      refine lv_iload C.x C.b dL_law_78 (lv_at hl 0 rfl) ?_
      refine lv_bipush (v := nI 40) C.x C.b dL_law_80 (by decide) ?_
      refine lv_idiv C.x C.b dL_law_82 (by decide) ?_
      obtain ⟨z, hz, ez⟩ : ∃ z, z < 16777216 ∧ y / 40 = z := ⟨_, by omega, rfl⟩
      refine k_topi (y := nI z) ((pk_div (by omega) (by omega) (by omega)).trans (congrArg nI ez)) ?_
      refine lv_istore (lv' := (11, .int (nI z)) :: (10, .int (nI y)) :: (9, .int (nI w)) :: (8, .int (nI x)) :: lwB b h m i) C.x C.b dL_law_83 hl (by decide) rfl (fun ls hl => ?_)
      match w, hw, hl with
      | 0, _, hl => exact law_w0 hst C hX hR hcl hI hd hx hy hz (lv_sub hl [4, 5, 6, 7, 8, 9, 10, 11, 3, 2, 1, 0] rfl) K
      | 1, _, hl => exact law_w1 hst C hX hR hcl hI hd hx hy hz (lv_sub hl [4, 5, 6, 7, 8, 9, 10, 11, 3, 2, 1, 0] rfl) K
      | 2, _, hl => exact law_w2 hst C hX hR hcl hI hd hx hy hz (lv_sub hl [4, 5, 6, 7, 8, 9, 10, 11, 3, 2, 1, 0] rfl) K
      | 3, _, hl => exact law_w3 hst C hX hR hcl hI hd hx hy hz (lv_sub hl [4, 5, 6, 7, 8, 9, 10, 11, 3, 2, 1, 0] rfl) K
      | 4, _, hl => exact law_w4 hst C hX hR hcl hI hd hx hy hz (lv_sub hl [4, 5, 6, 7, 8, 9, 10, 11, 3, 2, 1, 0] rfl) K
      | 5, _, hl =>
        rcases Nat.eq_zero_or_pos m.nd with h0 | h0
        · exact law_w5a hst C hX hR hcl hI hd hx hy hz h0 (lv_sub hl [4, 5, 6, 7, 8, 9, 10, 11, 3, 2, 1, 0] rfl) K
        · exact law_w5b hst C hX hR hcl hI hd hx hy hz h0 (lv_sub hl [4, 5, 6, 7, 8, 9, 10, 11, 3, 2, 1, 0] rfl) K
      | 6, _, hl => exact law_w6 hst C hX hR hcl hI hd hx hy hz (lv_sub hl [4, 5, 6, 7, 8, 9, 10, 11, 3, 2, 1, 0] rfl) K
      | 7, _, hl =>
        rcases Nat.eq_zero_or_pos m.ng with h0 | h0
        · exact law_w7b hst C hX hR hcl hI hd hx hy hz h0 (lv_sub hl [4, 5, 6, 7, 8, 9, 10, 11, 3, 2, 1, 0] rfl) K
        · exact law_w7a hst C hX hR hcl hI hd hx hy hz h0 (lv_sub hl [4, 5, 6, 7, 8, 9, 10, 11, 3, 2, 1, 0] rfl) K
      | 8, _, hl => exact law_w8 hst C hX hR hcl hI hd hx hy hz (lv_sub hl [4, 5, 6, 7, 8, 9, 10, 11, 3, 2, 1, 0] rfl) K
      | 9, _, hl => exact law_w9 hst C hX hR hcl hI hd hx hy hz (lv_sub hl [4, 5, 6, 7, 8, 9, 10, 11, 3, 2, 1, 0] rfl) K
      | 10, _, hl =>
        rcases Nat.eq_zero_or_pos m.nm with h0 | h0
        · exact law_w10b hst C hX hR hcl hI hd hx hy hz h0 (lv_sub hl [4, 5, 6, 7, 8, 9, 10, 11, 3, 2, 1, 0] rfl) K
        · exact law_w10a hst C hX hR hcl hI hd hx hy hz h0 (lv_sub hl [4, 5, 6, 7, 8, 9, 10, 11, 3, 2, 1, 0] rfl) K
      | 11, _, hl => exact law_w11 hst C hX hR hcl hI hd hx hy hz (lv_sub hl [4, 5, 6, 7, 8, 9, 10, 11, 3, 2, 1, 0] rfl) K
      | 12, _, hl => exact law_w12 hst C hX hR hcl hI hd hx hy hz (lv_sub hl [4, 5, 6, 7, 8, 9, 10, 11, 3, 2, 1, 0] rfl) K
      | w + 13, hw, _ => exact absurd hw (by omega)
    refine lv_aload_n C.x C.b dL_law_39 rfl (lv_at hl 0 rfl) ?_
    refine va_slen C.x C.b hXs hbl hbA hX.2 dL_law_40 ?_
    refine lv_if_ne (tgt := 52) C.x C.b dL_law_41 (by decide) (fun qL => ?_) (fun _ => ?_)
    · have hL0 : 0 < L := Nat.pos_of_ne_zero (fun z => qL (by rw [z]; rfl))
      refine lv_aload_n C.x C.b dL_law_52 rfl (lv_at hl 0 rfl) ?_
      refine lv_iload C.x C.b dL_law_53 (lv_at hl 7 rfl) ?_
      refine lv_aload_n C.x C.b dL_law_55 rfl (lv_at hl 0 rfl) ?_
      refine va_slen C.x C.b hXs hbl hbA hX.2 dL_law_56 ?_
      refine lv_irem C.x C.b dL_law_57 qL ?_
      refine k_topi (y := nI (i % L)) (pk_rem (a := i) (d := L) (by omega) hL0 (by omega)) ?_
      refine va_sld C.x C.b hXs hbl hbA hX.2 (vp_in_nI (Nat.mod_lt _ hL0) (by omega)) dL_law_58 ?_
      refine lv_bipush (v := nI 8) C.x C.b dL_law_59 (by decide) ?_
      obtain ⟨x, hx, ex⟩ := jU8 (xs (nI (i % L)).toNatClampNeg)
      refine lv_iushr (v := jU (xs (nI (i % L)).toNatClampNeg) (nI 8)) C.x C.b dL_law_61 rfl ?_
      refine k_topi (y := nI x) ex ?_
      exact J62 x ls hx hl
    · refine lv_bipush (v := nI 107) C.x C.b dL_law_44 (by decide) ?_
      refine lv_iload C.x C.b dL_law_46 (lv_at hl 7 rfl) ?_
      refine lv_imul C.x C.b dL_law_48 ?_
      refine k_topi (y := nI (107 * i)) (pk_mul _ _) ?_
      refine lv_goto (tgt := 62) C.x C.b dL_law_49 (by decide) ?_
      exact J62 (107 * i) ls (by omega) hl
end KLO
